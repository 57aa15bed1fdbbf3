/-! looks, by the law's wrappers -/
theorem x_red {l : Launch} {G : GG} {M : MM} {σ : Sg} {n : Nat} {L : List Sg} (h : Xs M σ n L) {i : Nat} (hi : i < 8) : Ct l G yL_potOf wsL_potOf 12 ([.ref (G.2.2 72), .int (nI i), .int (nI 0)] : List Value) M (rI (nI (σ (4 * i))) M) := by
  obtain ⟨S, hX, hO, rfl, rfl, hk9⟩ := h
  exact wt_potOf (by decide) (ct_potOf hX hO hi (by decide))
theorem x_grn {l : Launch} {G : GG} {M : MM} {σ : Sg} {n : Nat} {L : List Sg} (h : Xs M σ n L) {i : Nat} (hi : i < 8) : Ct l G yL_potOf wsL_potOf 12 ([.ref (G.2.2 72), .int (nI i), .int (nI 1)] : List Value) M (rI (nI (σ (4 * i + 1))) M) := by
  obtain ⟨S, hX, hO, rfl, rfl, hk9⟩ := h
  exact wt_potOf (by decide) (ct_potOf hX hO hi (by decide))
theorem x_blu {l : Launch} {G : GG} {M : MM} {σ : Sg} {n : Nat} {L : List Sg} (h : Xs M σ n L) {i : Nat} (hi : i < 8) : Ct l G yL_potOf wsL_potOf 12 ([.ref (G.2.2 72), .int (nI i), .int (nI 2)] : List Value) M (rI (nI (σ (4 * i + 2))) M) := by
  obtain ⟨S, hX, hO, rfl, rfl, hk9⟩ := h
  exact wt_potOf (by decide) (ct_potOf hX hO hi (by decide))
theorem x_lab {l : Launch} {G : GG} {M : MM} {σ : Sg} {n : Nat} {L : List Sg} (h : Xs M σ n L) {i : Nat} (hi : i < 8) : Ct l G yL_potOf wsL_potOf 12 ([.ref (G.2.2 72), .int (nI i), .int (nI 3)] : List Value) M (rI (oI (σ (4 * i + 3))) M) := by
  obtain ⟨S, hX, hO, rfl, rfl, hk9⟩ := h
  exact wt_potOf (by decide) (ct_potOf hX hO hi (by decide))
theorem x_tel {l : Launch} {G : GG} {M : MM} {σ : Sg} {n : Nat} {L : List Sg} (h : Xs M σ n L) {i : Nat} (hi : i < 8) : Ct l G yL_potOf wsL_potOf 12 ([.ref (G.2.2 72), .int (nI i), .int (nI 4)] : List Value) M (rI (nI (tom σ i)) M) := by
  obtain ⟨S, hX, hO, rfl, rfl, hk9⟩ := h
  exact wt_potOf (by decide) (ct_potOf hX hO hi (by decide))
theorem x_pot {l : Launch} {G : GG} {M : MM} {σ : Sg} {n : Nat} {L : List Sg} (h : Xs M σ n L) {i k : Nat} (hi : i < 8) (hk : k ≤ 4) : Ct l G yL_potOf wsL_potOf 12 ([.ref (G.2.2 72), .int (nI i), .int (nI k)] : List Value) M (rI (ofP σ i k) M) := by
  obtain ⟨S, hX, hO, rfl, rfl, hk9⟩ := h
  exact wt_potOf (by decide) (ct_potOf hX hO hi hk)
theorem x_seen {l : Launch} {G : GG} {M : MM} {σ : Sg} {n : Nat} {L : List Sg} (h : Xs M σ n L) {p i : Nat} (hp : p < 4) (hi : i < 8) : Ct l G yL_seen wsL_seen 12 ([.ref (G.2.2 72), .int (nI p), .int (nI i)] : List Value) M (rI (nI (sen σ p i)) M) := by
  obtain ⟨S, hX, hO, rfl, rfl, hk9⟩ := h
  exact wt_seen (by decide) (ct_seen hX hO hp hi)
theorem x_kin {l : Launch} {G : GG} {M : MM} {σ : Sg} {n : Nat} {L : List Sg} (h : Xs M σ n L) {p : Nat} (hp : p < 4) : Ct l G yL_painterOf wsL_painterOf 12 ([.ref (G.2.2 72), .int (nI p), .int (nI 0)] : List Value) M (rI (nI (σ (32 + 3 * p))) M) := by
  obtain ⟨S, hX, hO, rfl, rfl, hk9⟩ := h
  exact wt_painterOf (by decide) (ct_painterOf hX hO hp (by decide))
theorem x_shp {l : Launch} {G : GG} {M : MM} {σ : Sg} {n : Nat} {L : List Sg} (h : Xs M σ n L) {p : Nat} (hp : p < 4) : Ct l G yL_painterOf wsL_painterOf 12 ([.ref (G.2.2 72), .int (nI p), .int (nI 1)] : List Value) M (rI (nI (σ (33 + 3 * p))) M) := by
  obtain ⟨S, hX, hO, rfl, rfl, hk9⟩ := h
  exact wt_painterOf (by decide) (ct_painterOf hX hO hp (by decide))
theorem x_len {l : Launch} {G : GG} {M : MM} {σ : Sg} {n : Nat} {L : List Sg} (h : Xs M σ n L) {p : Nat} (hp : p < 4) : Ct l G yL_painterOf wsL_painterOf 12 ([.ref (G.2.2 72), .int (nI p), .int (nI 2)] : List Value) M (rI (oI (σ (34 + 3 * p))) M) := by
  obtain ⟨S, hX, hO, rfl, rfl, hk9⟩ := h
  exact wt_painterOf (by decide) (ct_painterOf hX hO hp (by decide))
theorem x_prs {l : Launch} {G : GG} {M : MM} {σ : Sg} {n : Nat} {L : List Sg} (h : Xs M σ n L) {p : Nat} (hp : p < 4) : Ct l G yL_painterOf wsL_painterOf 12 ([.ref (G.2.2 72), .int (nI p), .int (nI 3)] : List Value) M (rI (nI (pr σ p)) M) := by
  obtain ⟨S, hX, hO, rfl, rfl, hk9⟩ := h
  exact wt_painterOf (by decide) (ct_painterOf hX hO hp (by decide))
theorem x_wrg {l : Launch} {G : GG} {M : MM} {σ : Sg} {n : Nat} {L : List Sg} (h : Xs M σ n L) {p : Nat} (hp : p < 4) : Ct l G yL_painterOf wsL_painterOf 12 ([.ref (G.2.2 72), .int (nI p), .int (nI 4)] : List Value) M (rI (nI (wrg σ p)) M) := by
  obtain ⟨S, hX, hO, rfl, rfl, hk9⟩ := h
  exact wt_painterOf (by decide) (ct_painterOf hX hO hp (by decide))
theorem x_rgt {l : Launch} {G : GG} {M : MM} {σ : Sg} {n : Nat} {L : List Sg} (h : Xs M σ n L) {p : Nat} (hp : p < 4) : Ct l G yL_painterOf wsL_painterOf 12 ([.ref (G.2.2 72), .int (nI p), .int (nI 5)] : List Value) M (rI (bI (decide (wrg σ p = 0))) M) := by
  obtain ⟨S, hX, hO, rfl, rfl, hk9⟩ := h
  exact wt_painterOf (by decide) (ct_painterOf hX hO hp (by decide))
theorem x_crd {l : Launch} {G : GG} {M : MM} {σ : Sg} {n : Nat} {L : List Sg} (h : Xs M σ n L) {p : Nat} (hp : p < 4) : Ct l G yL_painterOf wsL_painterOf 12 ([.ref (G.2.2 72), .int (nI p), .int (nI 6)] : List Value) M (rI (nI (crd σ p)) M) := by
  obtain ⟨S, hX, hO, rfl, rfl, hk9⟩ := h
  exact wt_painterOf (by decide) (ct_painterOf hX hO hp (by decide))
theorem x_pnt {l : Launch} {G : GG} {M : MM} {σ : Sg} {n : Nat} {L : List Sg} (h : Xs M σ n L) {p k : Nat} (hp : p < 4) (hk : k ≤ 6) : Ct l G yL_painterOf wsL_painterOf 12 ([.ref (G.2.2 72), .int (nI p), .int (nI k)] : List Value) M (rI (ofN σ p k) M) := by
  obtain ⟨S, hX, hO, rfl, rfl, hk9⟩ := h
  exact wt_painterOf (by decide) (ct_painterOf hX hO hp hk)
theorem x_ap {l : Launch} {G : GG} {M : MM} {σ : Sg} {n : Nat} {L : List Sg} (h : Xs M σ n L) {p i j : Nat} (hp : p < 4) (hi : i < 8) (hj : j < 8) : Ct l G yL_apart wsL_apart 12 ([.ref (G.2.2 72), .int (nI p), .int (nI i), .int (nI j)] : List Value) M (rI (bI (ap σ p i j)) M) := by
  obtain ⟨S, hX, hO, rfl, rfl, hk9⟩ := h
  exact wt_apart (by decide) (ct_apart hX hO hp hi hj)
theorem x_chf {l : Launch} {G : GG} {M : MM} {σ : Sg} {n : Nat} {L : List Sg} (h : Xs M σ n L) {c : Nat} (hc : c < σ 44) : Ct l G yL_chartOf wsL_chartOf 12 ([.ref (G.2.2 72), .int (nI c), .int (nI 0)] : List Value) M (rI (nI (σ (45 + 2 * c))) M) := by
  obtain ⟨S, hX, hO, rfl, rfl, hk9⟩ := h
  exact wt_chartOf (by decide) (ct_chartOf hX hO hc (by decide))
theorem x_chg {l : Launch} {G : GG} {M : MM} {σ : Sg} {n : Nat} {L : List Sg} (h : Xs M σ n L) {c : Nat} (hc : c < σ 44) : Ct l G yL_chartOf wsL_chartOf 12 ([.ref (G.2.2 72), .int (nI c), .int (nI 1)] : List Value) M (rI (nI (σ (46 + 2 * c))) M) := by
  obtain ⟨S, hX, hO, rfl, rfl, hk9⟩ := h
  exact wt_chartOf (by decide) (ct_chartOf hX hO hc (by decide))
theorem x_chr {l : Launch} {G : GG} {M : MM} {σ : Sg} {n : Nat} {L : List Sg} (h : Xs M σ n L) {c : Nat} (hc : c < σ 44) : Ct l G yL_chartOf wsL_chartOf 12 ([.ref (G.2.2 72), .int (nI c), .int (nI 2)] : List Value) M (rI (nI (rdm σ c)) M) := by
  obtain ⟨S, hX, hO, rfl, rfl, hk9⟩ := h
  exact wt_chartOf (by decide) (ct_chartOf hX hO hc (by decide))
theorem x_cht {l : Launch} {G : GG} {M : MM} {σ : Sg} {n : Nat} {L : List Sg} (h : Xs M σ n L) {c k : Nat} (hc : c < σ 44) (hk : k ≤ 2) : Ct l G yL_chartOf wsL_chartOf 12 ([.ref (G.2.2 72), .int (nI c), .int (nI k)] : List Value) M (rI (ofC σ c k) M) := by
  obtain ⟨S, hX, hO, rfl, rfl, hk9⟩ := h
  exact wt_chartOf (by decide) (ct_chartOf hX hO hc hk)
theorem x_ct0 {l : Launch} {G : GG} {M : MM} {σ : Sg} {n : Nat} {L : List Sg} (h : Xs M σ n L)  : Ct l G yL_count wsL_count 12 ([.ref (G.2.2 72), .int (nI 0)] : List Value) M (rI (nI (labd σ)) M) := by
  obtain ⟨S, hX, hO, rfl, rfl, hk9⟩ := h
  exact wt_count (by decide) (ct_count hX hO (by decide))
theorem x_ct1 {l : Launch} {G : GG} {M : MM} {σ : Sg} {n : Nat} {L : List Sg} (h : Xs M σ n L)  : Ct l G yL_count wsL_count 12 ([.ref (G.2.2 72), .int (nI 1)] : List Value) M (rI (nI (popc (lmask σ))) M) := by
  obtain ⟨S, hX, hO, rfl, rfl, hk9⟩ := h
  exact wt_count (by decide) (ct_count hX hO (by decide))
theorem x_ct2 {l : Launch} {G : GG} {M : MM} {σ : Sg} {n : Nat} {L : List Sg} (h : Xs M σ n L)  : Ct l G yL_count wsL_count 12 ([.ref (G.2.2 72), .int (nI 2)] : List Value) M (rI (nI (σ 44)) M) := by
  obtain ⟨S, hX, hO, rfl, rfl, hk9⟩ := h
  exact wt_count (by decide) (ct_count hX hO (by decide))
theorem x_ct3 {l : Launch} {G : GG} {M : MM} {σ : Sg} {n : Nat} {L : List Sg} (h : Xs M σ n L)  : Ct l G yL_count wsL_count 12 ([.ref (G.2.2 72), .int (nI 3)] : List Value) M (rI (nI (nob σ)) M) := by
  obtain ⟨S, hX, hO, rfl, rfl, hk9⟩ := h
  exact wt_count (by decide) (ct_count hX hO (by decide))
theorem x_ct4 {l : Launch} {G : GG} {M : MM} {σ : Sg} {n : Nat} {L : List Sg} (h : Xs M σ n L)  : Ct l G yL_count wsL_count 12 ([.ref (G.2.2 72), .int (nI 4)] : List Value) M (rI (nI (srv σ)) M) := by
  obtain ⟨S, hX, hO, rfl, rfl, hk9⟩ := h
  exact wt_count (by decide) (ct_count hX hO (by decide))
theorem x_ct5 {l : Launch} {G : GG} {M : MM} {σ : Sg} {n : Nat} {L : List Sg} (h : Xs M σ n L)  : Ct l G yL_count wsL_count 12 ([.ref (G.2.2 72), .int (nI 5)] : List Value) M (rI (nI (σ 57)) M) := by
  obtain ⟨S, hX, hO, rfl, rfl, hk9⟩ := h
  exact wt_count (by decide) (ct_count hX hO (by decide))
theorem x_ct6 {l : Launch} {G : GG} {M : MM} {σ : Sg} {n : Nat} {L : List Sg} (h : Xs M σ n L)  : Ct l G yL_count wsL_count 12 ([.ref (G.2.2 72), .int (nI 6)] : List Value) M (rI (nI (σ 58)) M) := by
  obtain ⟨S, hX, hO, rfl, rfl, hk9⟩ := h
  exact wt_count (by decide) (ct_count hX hO (by decide))
theorem x_ct7 {l : Launch} {G : GG} {M : MM} {σ : Sg} {n : Nat} {L : List Sg} (h : Xs M σ n L)  : Ct l G yL_count wsL_count 12 ([.ref (G.2.2 72), .int (nI 7)] : List Value) M (rI (nI n) M) := by
  obtain ⟨S, hX, hO, rfl, rfl, hk9⟩ := h
  exact wt_count (by decide) (ct_count hX hO (by decide))
def cn7 (σ : Sg) (k : Nat) : Int32 := match k with
  | 0 => nI (labd σ)
  | 1 => nI (popc (lmask σ))
  | 2 => nI (σ 44)
  | 3 => nI (nob σ)
  | 4 => nI (srv σ)
  | 5 => nI (σ 57)
  | _ => nI (σ 58)
theorem cn7_8 {S : SS} {k : Nat} (h : k < 7) : cnt8 S k = cn7 S.1 k := by
  rcases (show k = 0 ∨ k = 1 ∨ k = 2 ∨ k = 3 ∨ k = 4 ∨ k = 5 ∨ k = 6 by omega) with rfl | rfl | rfl | rfl | rfl | rfl | rfl <;> rfl
theorem x_cnt {l : Launch} {G : GG} {M : MM} {σ : Sg} {n : Nat} {L : List Sg} (h : Xs M σ n L) {k : Nat} (hk : k < 7) : Ct l G yL_count wsL_count 12 ([.ref (G.2.2 72), .int (nI k)] : List Value) M (rI (cn7 σ k) M) := by
  obtain ⟨S, hX, hO, rfl, rfl, hk9⟩ := h
  exact (by rw [← cn7_8 hk]; exact wt_count (by decide) (ct_count hX hO (by omega)))
theorem x_ifb {l : Launch} {G : GG} {M : MM} {σ : Sg} {n : Nat} {L : List Sg} (h : Xs M σ n L) {p q : Nat} (hp : p < 4) (hq : q < 4) : Ct l G yL_ifBorrowed wsL_ifBorrowed 12 ([.ref (G.2.2 72), .int (nI p), .int (nI q)] : List Value) M (rI (nI (prW σ p (q + 1))) M) := by
  obtain ⟨S, hX, hO, rfl, rfl, hk9⟩ := h
  exact wt_ifBorrowed (by decide) (ct_ifBorrowed hX hO hp hq)
theorem x_lst {l : Launch} {G : GG} {M : MM} {σ : Sg} {n : Nat} {L : List Sg} (h : Xs M σ n L) {p i j : Nat} {az : Nat × Nat} (hz : az = nst σ p i j 1000) (hp : p < 4) (hi : i < 8) (hj : j < 8) (hne : ¬ i = j) : Ct l G yL_leastChange wsL_leastChange 12 ([.ref (G.2.2 72), .int (nI p), .int (nI i), .int (nI j)] : List Value) M (rI (lsR az) M) := by
  obtain ⟨S, hX, hO, rfl, rfl, hk9⟩ := h
  exact wt_leastChange (by decide) (ct_leastChange hX hO hz hp hi hj hne)
theorem x_best {l : Launch} {G : GG} {M : MM} {σ : Sg} {n : Nat} {L : List Sg} (h : Xs M σ n L)  : Ct l G yX5_bestPainter wsX5_bestPainter 5 ([.ref (G.2.2 72)] : List Value) M (rI (nI (bst σ)) M) := by
  obtain ⟨S, hX, hO, rfl, rfl, hk9⟩ := h
  exact ct_bestPainter hX hO
theorem x_shr {l : Launch} {G : GG} {M : MM} {σ : Sg} {n : Nat} {L : List Sg} (h : Xs M σ n L)  : Ct l G yX5_apartShare wsX5_apartShare 5 ([.ref (G.2.2 72)] : List Value) M (rD (shr σ) M) := by
  obtain ⟨S, hX, hO, rfl, rfl, hk9⟩ := h
  exact ct_apartShare hX hO
/-! calls that change something -/
theorem x_mix {l : Launch} {G : GG} {M : MM} {σ : Sg} {n : Nat} {L : List Sg} (h : Xs M σ n L) (hL : L.length ≤ 5) {i k v : Nat} (hi : i < 8) (hk : k ≤ 2) (hv : v ≤ 9) : Ct l G yL_mix wsL_mix 12 ([.ref (G.2.2 72), .int (nI i), .int (nI k), .int (nI v)] : List Value) M (fun v9 M9 => v9 = some (.int (nI (pr3 k (σ (4 * i)) (σ (4 * i + 1)) (σ (4 * i + 2))))) ∧ Xs M9 (setp σ i k v) (svN n) (σ :: L)) := by
  obtain ⟨S, hX, hO, rfl, rfl, hk9⟩ := h
  exact Ct.mono (wt_mix (P := fun M9 => Xc M9 (svW S (setp S.1 i k v)) ∧ Of M M9 inX) (by decide) (ct_mix hX hO hi hk hv)) (fun v M9 q => ⟨q.1, Xs.sv hX hO hk9 hL q.2.1 (Wf_setp hO.1 hi hk hv)⟩)
theorem x_pa0 {l : Launch} {G : GG} {M : MM} {σ : Sg} {n : Nat} {L : List Sg} (h : Xs M σ n L) (hL : L.length ≤ 5) {p v : Nat} (hp : p < 4) (hv : v ≤ 3) : Ct l G yL_painter wsL_painter 12 ([.ref (G.2.2 72), .int (nI p), .int (nI 0), .int (nI v)] : List Value) M (fun v9 M9 => v9 = some (.int (nI (σ (32 + 3 * p)))) ∧ Xs M9 (upS σ (32 + 3 * p) v) (svN n) (σ :: L)) := by
  obtain ⟨S, hX, hO, rfl, rfl, hk9⟩ := h
  exact Ct.mono (wt_painter (P := fun M9 => Xc M9 (svW S (upS S.1 (32 + 3 * p) v)) ∧ Of M M9 inX) (by decide) (ct_painter_0 hX hO hp hv)) (fun v M9 q => ⟨q.1, Xs.sv hX hO hk9 hL q.2.1 (Wf_kin hO.1 hp hv)⟩)
theorem x_pa1 {l : Launch} {G : GG} {M : MM} {σ : Sg} {n : Nat} {L : List Sg} (h : Xs M σ n L) (hL : L.length ≤ 5) {p v : Nat} (hp : p < 4) (hv : v ≤ 27) : Ct l G yL_painter wsL_painter 12 ([.ref (G.2.2 72), .int (nI p), .int (nI 1), .int (nI v)] : List Value) M (fun v9 M9 => v9 = some (.int (nI (σ (33 + 3 * p)))) ∧ Xs M9 (upS σ (33 + 3 * p) v) (svN n) (σ :: L)) := by
  obtain ⟨S, hX, hO, rfl, rfl, hk9⟩ := h
  exact Ct.mono (wt_painter (P := fun M9 => Xc M9 (svW S (upS S.1 (33 + 3 * p) v)) ∧ Of M M9 inX) (by decide) (ct_painter_1 hX hO hp hv)) (fun v M9 q => ⟨q.1, Xs.sv hX hO hk9 hL q.2.1 (Wf_shp hO.1 hp hv)⟩)
theorem x_bor {l : Launch} {G : GG} {M : MM} {σ : Sg} {n : Nat} {L : List Sg} (h : Xs M σ n L) (hL : L.length ≤ 5) {p q : Nat} (hp : p < 4) (hq : q < 4) : Ct l G yL_borrow wsL_borrow 12 ([.ref (G.2.2 72), .int (nI p), .int (nI q)] : List Value) M (fun v9 M9 => v9 = some (.int (oI (σ (34 + 3 * p)))) ∧ Xs M9 (upS σ (34 + 3 * p) (brw p q)) (svN n) (σ :: L)) := by
  obtain ⟨S, hX, hO, rfl, rfl, hk9⟩ := h
  exact Ct.mono (wt_borrow (P := fun M9 => Xc M9 (svW S (upS S.1 (34 + 3 * p) (brw p q))) ∧ Of M M9 inX) (by decide) (ct_borrow hX hO hp hq)) (fun v M9 q => ⟨q.1, Xs.sv hX hO hk9 hL q.2.1 (Wf_len hO.1 hp (brw_le hq))⟩)
theorem x_lbl {l : Launch} {G : GG} {M : MM} {σ : Sg} {n : Nat} {L : List Sg} (h : Xs M σ n L) (hL : L.length ≤ 5) {i v : Nat} (hi : i < 8) (hv : v ≤ 8) : Ct l G yL_label wsL_label 12 ([.ref (G.2.2 72), .int (nI i), .int (oI v)] : List Value) M (fun v9 M9 => v9 = some (.int (oI (σ (4 * i + 3)))) ∧ Xs M9 (upS σ (4 * i + 3) v) (svN n) (σ :: L)) := by
  obtain ⟨S, hX, hO, rfl, rfl, hk9⟩ := h
  exact Ct.mono (wt_label (P := fun M9 => Xc M9 (svW S (upS S.1 (4 * i + 3) v)) ∧ Of M M9 inX) (by decide) (ct_label hX hO hi hv)) (fun v M9 q => ⟨q.1, Xs.sv hX hO hk9 hL q.2.1 (Wf_lab hO.1 hi hv)⟩)
theorem x_lba {l : Launch} {G : GG} {M : MM} {σ : Sg} {n : Nat} {L : List Sg} (h : Xs M σ n L) (hL : L.length ≤ 5) {p : Nat} (hp : p < 4) : Ct l G yL_labelAll wsL_labelAll 12 ([.ref (G.2.2 72), .int (nI p)] : List Value) M (fun v9 M9 => v9 = some (.int (nI (popc (lmask (lbS σ p 8))))) ∧ Xs M9 (lbS σ p 8) (svN n) (σ :: L)) := by
  obtain ⟨S, hX, hO, rfl, rfl, hk9⟩ := h
  exact Ct.mono (wt_labelAll (P := fun M9 => Xc M9 (svW S (lbS S.1 p 8)) ∧ Of M M9 inX) (by decide) (ct_labelAll hX hO hp)) (fun v M9 q => ⟨q.1, Xs.sv hX hO hk9 hL q.2.1 (Wf.lbS hO.1 (Nat.le_refl 8))⟩)
theorem x_hng {l : Launch} {G : GG} {M : MM} {σ : Sg} {n : Nat} {L : List Sg} (h : Xs M σ n L) (hL : L.length ≤ 5) {i j : Nat} (hi : i < 8) (hj : j < 8) (hne : ¬ i = j) : Ct l G yL_hang wsL_hang 12 ([.ref (G.2.2 72), .int (nI i), .int (nI j)] : List Value) M (fun v9 M9 => v9 = some (.int (adR σ)) ∧ Xs M9 (adS σ i j) (svN n) (σ :: L)) := by
  obtain ⟨S, hX, hO, rfl, rfl, hk9⟩ := h
  exact Ct.mono (wt_hang (P := fun M9 => Xc M9 (svW S (adS S.1 i j)) ∧ Of M M9 inX) (by decide) (ct_hang hX hO hi hj hne)) (fun v M9 q => ⟨q.1, Xs.sv hX hO hk9 hL q.2.1 (Wf_adS hO.1 hi hj)⟩)
theorem x_cor {l : Launch} {G : GG} {M : MM} {σ : Sg} {n : Nat} {L : List Sg} (h : Xs M σ n L) (hL : L.length ≤ 5) {ch p : Nat} {az : Nat × Nat} (hz : az = nst σ p (σ (45 + 2 * ch)) (σ (46 + 2 * ch)) 1000) (hc : ch < σ 44) (hp : p < 4) : Ct l G yL_correct wsL_correct 12 ([.ref (G.2.2 72), .int (nI ch), .int (nI p)] : List Value) M (fun v9 M9 => v9 = some (.int (lsR az)) ∧ Xs M9 (mrG az σ ch) (svN n) (σ :: L)) := by
  obtain ⟨S, hX, hO, rfl, rfl, hk9⟩ := h
  exact Ct.mono (wt_correct (P := fun M9 => Xc M9 (svW S (mrG az S.1 ch)) ∧ Of M M9 inX) (by decide) (ct_correct hX hO hz hc hp)) (fun v M9 q => ⟨q.1, Xs.sv hX hO hk9 hL q.2.1 (Wf_mrG hO.1 (by rw [hz]; exact (nst_in _ _ _ _ 1000).1.1) (by have := hO.1.2.2.1; omega))⟩)
theorem x_und {l : Launch} {G : GG} {M : MM} {σ : Sg} {n : Nat} {a : Sg} {r : List Sg} (h : Xs M σ n (a :: r)) : Ct l G yL_undo wsL_undo 12 ([.ref (G.2.2 72)] : List Value) M (fun v9 M9 => v9 = some (.int (nI (n - 1))) ∧ Xs M9 a (n - 1) r) := by
  obtain ⟨S, hX, hO, rfl, rfl, hk9⟩ := h
  exact Ct.mono (wt_undo (P := fun M9 => Xc M9 (popS S) ∧ Of M M9 inX) (by decide) (ct_undo hX hO hk9.1)) (fun v M9 q => ⟨q.1, ⟨popS S, q.2.1, OkS.pop hO hk9.1, hk9.2.1, rfl, hk9.2.2⟩⟩)
theorem x_fw0 {l : Launch} {G : GG} {M : MM} {σ : Sg} {n : Nat} {L : List Sg} (h : Xs M σ n L) {p cp : Nat} (hk : Chi (ap σ p) (fun _ => true) cp) (hp : p < 4) : Ct l G yL_fewest wsL_fewest 12 ([.ref (G.2.2 72), .int (nI p), .int (nI 0)] : List Value) M (fun v9 M9 => v9 = some (.int (nI cp)) ∧ Xs M9 σ n L) := by
  obtain ⟨S, hX, hO, rfl, rfl, hk9⟩ := h
  exact Ct.mono (wt_fewest (P := fun M9 => Xc M9 S ∧ Of M M9 inX) (by decide) (ct_fewest_0 hX hO hk hp)) (fun v M9 q => ⟨q.1, ⟨S, q.2.1, hO, rfl, rfl, hk9⟩⟩)
theorem x_fw1 {l : Launch} {G : GG} {M : MM} {σ : Sg} {n : Nat} {L : List Sg} (h : Xs M σ n L) {p cp : Nat} (hk : Chi (ap σ p) (fun _ => true) cp) (hp : p < 4) : Ct l G yL_fewest wsL_fewest 12 ([.ref (G.2.2 72), .int (nI p), .int (nI 1)] : List Value) M (fun v9 M9 => v9 = some (.int (nI cp)) ∧ Xs M9 σ n L) := by
  obtain ⟨S, hX, hO, rfl, rfl, hk9⟩ := h
  exact Ct.mono (wt_fewest (P := fun M9 => Xc M9 S ∧ Of M M9 inX) (by decide) (ct_fewest_1 hX hO hk hp)) (fun v M9 q => ⟨q.1, ⟨S, q.2.1, hO, rfl, rfl, hk9⟩⟩)
theorem x_tkd {l : Launch} {G : GG} {M : MM} {σ : Sg} {n : Nat} {L : List Sg} (h : Xs M σ n L) (hL : L.length ≤ 5) {ch : Nat} (hc : ch < σ 44) : Cw l G yL_takeDown wsL_takeDown 12 ([.ref (G.2.2 72), .int (nI ch)] : List Value) M (fun v9 M9 => v9 = some (.int (nI (popc (rdm σ ch)))) ∧ Xs M9 (rmS σ ch) (svN n) (σ :: L)) := by
  obtain ⟨S, hX, hO, rfl, rfl, hk9⟩ := h
  exact Cw.mono (wo_takeDown (P := fun M9 => Xc M9 (svW S (rmS S.1 ch)) ∧ Of M M9 inX) (by decide) (ct_takeDown hX hO hc)) (fun v M9 q => ⟨q.1, Xs.sv hX hO hk9 hL q.2.1 (Wf_rmS hO.1)⟩)
theorem x_coX {l : Launch} {G : GG} {M : MM} {σ : Sg} {n : Nat} {L : List Sg} (h : Xs M σ n L) (hL : L.length ≤ 5) {ch p : Nat} {az : Nat × Nat} (hz : az = nst σ p (σ (45 + 2 * ch)) (σ (46 + 2 * ch)) 1000) (hc : ch < σ 44) (hp : p < 4) : Cw l G yL_correct wsL_correct 12 ([.ref (G.2.2 72), .int (nI ch), .int (nI p)] : List Value) M (fun v9 M9 => v9 = some (.int (lsR az)) ∧ Xs M9 (mrG az σ ch) (svN n) (σ :: L)) := by
  obtain ⟨S, hX, hO, rfl, rfl, hk9⟩ := h
  exact Cw.mono (wo_correct (P := fun M9 => Xc M9 (svW S (mrG az S.1 ch)) ∧ Of M M9 inX) (by decide) (ct_correct hX hO hz hc hp)) (fun v M9 q => ⟨q.1, Xs.sv hX hO hk9 hL q.2.1 (Wf_mrG hO.1 (by rw [hz]; exact (nst_in _ _ _ _ 1000).1.1) (by have := hO.1.2.2.1; omega))⟩)
theorem x_tkN {l : Launch} {G : GG} {M : MM} {σ : Sg} {n : Nat} {L : List Sg} (h : Xs M σ n L) (hl : l.stackTraces = false) {ch : Nat} (hc : σ 44 ≤ ch) (hc6 : ch < 2 ^ 31) : Cw l G yL_takeDown wsL_takeDown 12 ([.ref (G.2.2 72), .int (nI ch)] : List Value) M (fun v9 M9 => v9 = some (.int (-1000001)) ∧ Xs M9 σ n L) := by
  obtain ⟨S, hX, hO, rfl, rfl, hk9⟩ := h
  exact Cw.mono (we_takeDown (by decide) (tt_takeDown_1 hl hX hO hc hc6)) (fun v M9 q => ⟨q.1, by rw [q.2]; exact ⟨S, hX, hO, rfl, rfl, hk9⟩⟩)
theorem x_coN {l : Launch} {G : GG} {M : MM} {σ : Sg} {n : Nat} {L : List Sg} (h : Xs M σ n L) (hl : l.stackTraces = false) {ch : Nat} {p : Int32} (hc : σ 44 ≤ ch) (hc6 : ch < 2 ^ 31) : Cw l G yL_correct wsL_correct 12 ([.ref (G.2.2 72), .int (nI ch), .int (p)] : List Value) M (fun v9 M9 => v9 = some (.int (-1000001)) ∧ Xs M9 σ n L) := by
  obtain ⟨S, hX, hO, rfl, rfl, hk9⟩ := h
  exact Cw.mono (we_correct (by decide) (tt_correct_1 hl hX hO hc hc6)) (fun v M9 q => ⟨q.1, by rw [q.2]; exact ⟨S, hX, hO, rfl, rfl, hk9⟩⟩)
theorem x_clr {l : Launch} {G : GG} {M : MM} {σ : Sg} {n : Nat} {L : List Sg} (h : Xs M σ n L) : Ct l G yX5_clearBuffer wsX5_clearBuffer 2 ([.ref (G.2.2 72)] : List Value) M (fun v9 M9 => ∃ r : Int32, v9 = some (.int r) ∧ ∃ f, Xt M9 σ n L 0 f) := by
  obtain ⟨S, hX, hO, rfl, rfl, hk9⟩ := h
  exact Ct.mono (ct_clearBuffer hX hO) (fun v M9 q => ⟨_, q.1, S.2.2.2.2.2.2, setT S 0 S.2.2.2.2.2.2, q.2.1, OkS.text hO, rfl, rfl, hk9, rfl, rfl⟩)
theorem x_app {l : Launch} {G : GG} {M : MM} {σ : Sg} {n m : Nat} {L : List Sg} {f : Nat → Nat} (h : Xt M σ n L m f) {k : Nat} (h1 : 33 ≤ k) (h2 : k ≤ 126) (hm : m < 60) : Ct l G yL_append wsL_append 12 ([.ref (G.2.2 72), .int (nI k)] : List Value) M (fun v9 M9 => v9 = some (.int (nI (m + 1))) ∧ Xt M9 σ n L (m + 1) (fun j => if j = m then k else f j)) := by
  obtain ⟨S, hX, hO, rfl, rfl, hk9, rfl, rfl⟩ := h
  exact Ct.mono (wt_append (P := fun M9 => Xc M9 (st_text S k) ∧ Of M M9 inX) (by decide) (ct_append hX hO h1 h2 hm)) (fun v M9 q => ⟨q.1, st_text S k, q.2.1, OkS.text hO, rfl, rfl, hk9, rfl, rfl⟩)
theorem x_loa {l : Launch} {G : GG} {M : MM} {σ : Sg} {n m : Nat} {L : List Sg} {f : Nat → Nat} (h : Xt M σ n L m f) (hL : L.length ≤ 5) (ht : tpT m f = true) : Ct l G yL_load wsL_load 12 ([.ref (G.2.2 72)] : List Value) M (fun v9 M9 => v9 = some (.int (nI (pr (gvS σ f (m / 6 + 1)) 0))) ∧ Xs M9 (gvS σ f (m / 6 + 1)) (svN n) (σ :: L)) := by
  obtain ⟨S, hX, hO, rfl, rfl, hk9, rfl, rfl⟩ := h
  refine Ct.mono (wt_load (P := fun M9 => Xc M9 (setT (svW S (gvS S.1 S.2.2.2.2.2.2 (S.2.2.2.2.2.1 / 6 + 1))) 0 S.2.2.2.2.2.2) ∧ Of M M9 inX) (by decide) (ct_load hX hO ht)) (fun v M9 q => ⟨q.1, ?_⟩)
  exact ⟨setT (svW S (gvS S.1 S.2.2.2.2.2.2 (S.2.2.2.2.2.1 / 6 + 1))) 0 S.2.2.2.2.2.2, q.2.1, OkS.text (OkS_svW hO (Wf.gvS hO.1 ht _ (by have := (tpT_ok ht).1; omega))), rfl, rfl, StkA_sv hX.2.1.1 hL hk9⟩
theorem Xt.s {M : MM} {σ : Sg} {n m : Nat} {L : List Sg} {f : Nat → Nat} (h : Xt M σ n L m f) : Xs M σ n L := by
  obtain ⟨S, hX, hO, h1, h2, h3, -, -⟩ := h
  exact ⟨S, hX, hO, h1, h2, h3⟩

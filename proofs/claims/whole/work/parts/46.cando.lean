set_option maxRecDepth 20000 in
theorem in_X6_canDo_X6 : ∀ w ∈ wsX60, w ∈ wsX6_canDo := by decide +kernel
set_option maxRecDepth 20000 in
theorem fl_X6_canDo_24 : Cond.fieldLink RX6 24 "PotLabelsModel" "row" "[I" ∈ wsX6_canDo := by decide +kernel
/-! the model's trying: the row of the labels is counted on -/
def Slb (R : Nat → Nat → Bool) (K : Nat) (c : Nat → Nat) : Prop := (∀ i, i < 8 → c i < K) ∧ ∀ i j, i < 8 → j < 8 → c i = c j → R i j = false
def Gd (R : Nat → Nat → Bool) (K : Nat) (r : Nat → Nat) (q : Nat) : Prop := r q < K ∧ ∀ o, o < q → r o = r q → R o q = false
/-- the labels before q are right; no right labelling comes before the row -/
def Od (R : Nat → Nat → Bool) (K q : Nat) (r : Nat → Nat) : Prop := (∀ j, j < q → r j < K) ∧ (∀ i j, i < q → j < q → r i = r j → R i j = false) ∧ r q ≤ K ∧ ∀ c, Slb R K c → ∀ d, d ≤ q → d < 8 → (∀ j, j < d → c j = r j) → r d ≤ c d
def Vr (r : Nat → Nat) : Nat → Nat
  | 0 => 0
  | n + 1 => Vr r n + (r n + 1) * 16 ^ (8 - n)
section OD
variable {R : Nat → Nat → Bool} {K q : Nat} {r : Nat → Nat}
theorem slb_iff : Cob R (fun _ => true) K ↔ ∃ c, Slb R K c := ⟨fun ⟨c, h1, h2⟩ => ⟨c, fun i hi => h1 i hi rfl, fun i j hi hj e => h2 i j hi hj rfl rfl e⟩, fun ⟨c, h1, h2⟩ => ⟨c, fun i hi _ => h1 i hi, fun i j hi hj _ _ e => h2 i j hi hj e⟩⟩
theorem od_0 : Od R K 0 (fun _ => 0) := ⟨fun j h => absurd h (Nat.not_lt_zero j), fun i j h => absurd h (Nat.not_lt_zero i), Nat.zero_le K, fun c _ d _ _ _ => Nat.zero_le _⟩
theorem od_A (hy : ∀ i j, R i j = R j i) (hr : ∀ i, R i i = false) (h : Od R K q r) (hg : Gd R K r q) : Od R K (q + 1) (upS r (q + 1) 0) := by
  obtain ⟨h1, h2, h3, h4⟩ := h
  refine ⟨fun j hj => ?_, fun i j hi hj e => ?_, by rw [upS_eq]; exact Nat.zero_le K, fun c hc d hd hd8 ha => ?_⟩
  · rw [upS_ne (by omega)]
    by_cases e : j = q
    · rw [e]; exact hg.1
    · exact h1 j (by omega)
  · rw [upS_ne (by omega), upS_ne (by omega)] at e
    by_cases a : i = q
    · by_cases b : j = q
      · rw [a, b]; exact hr q
      · rw [a] at e ⊢; rw [hy]; exact hg.2 j (by omega) e.symm
    · by_cases b : j = q
      · rw [b] at e ⊢; exact hg.2 i (by omega) e
      · exact h2 i j (by omega) (by omega) e
  · by_cases e : d = q + 1
    · rw [e, upS_eq]; exact Nat.zero_le _
    · rw [upS_ne e]
      exact h4 c hc d (by omega) hd8 (fun j hj => by have := ha j hj; rw [upS_ne (by omega)] at this; exact this)
theorem od_B (hq : q < 8) (h : Od R K q r) (hk : r q < K) (hn : ¬ Gd R K r q) : Od R K q (upS r q (r q + 1)) := by
  obtain ⟨h1, h2, h3, h4⟩ := h
  refine ⟨fun j hj => by rw [upS_ne (by omega)]; exact h1 j hj, fun i j hi hj e => by rw [upS_ne (by omega), upS_ne (by omega)] at e; exact h2 i j hi hj e, by rw [upS_eq]; omega, fun c hc d hd hd8 ha => ?_⟩
  have ha2 : ∀ j, j < d → c j = r j := fun j hj => by have := ha j hj; rw [upS_ne (by omega)] at this; exact this
  by_cases e : d = q
  · subst e
    rw [upS_eq]
    have h5 := h4 c hc d (Nat.le_refl d) hd8 ha2
    rcases Nat.lt_or_eq_of_le h5 with a | a
    · exact a
    · exact absurd ⟨hk, fun o ho eo => hc.2 o d (by omega) hd8 (by rw [ha2 o ho, eo, a])⟩ hn
  · rw [upS_ne e]; exact h4 c hc d hd hd8 ha2
theorem od_C (hq : q < 7) (h : Od R K (q + 1) r) (hk : K ≤ r (q + 1)) : Od R K q (upS r q (r q + 1)) := by
  obtain ⟨h1, h2, h3, h4⟩ := h
  refine ⟨fun j hj => by rw [upS_ne (by omega)]; exact h1 j (by omega), fun i j hi hj e => by rw [upS_ne (by omega), upS_ne (by omega)] at e; exact h2 i j (by omega) (by omega) e, by rw [upS_eq]; exact h1 q (by omega), fun c hc d hd hd8 ha => ?_⟩
  have ha2 : ∀ j, j < d → c j = r j := fun j hj => by have := ha j hj; rw [upS_ne (by omega)] at this; exact this
  by_cases e : d = q
  · subst e
    rw [upS_eq]
    have h5 := h4 c hc d (by omega) hd8 ha2
    rcases Nat.lt_or_eq_of_le h5 with a | a
    · exact a
    · have h6 := h4 c hc (d + 1) (Nat.le_refl _) (by omega) (fun j hj => (lt_or j d hj).elim (fun z => ha2 j z) (fun z => by rw [z]; exact a.symm))
      have := hc.1 (d + 1) (by omega)
      omega
  · rw [upS_ne e]; exact h4 c hc d (by omega) hd8 ha2
theorem od_C0 (h : Od R K 0 r) (hk : K ≤ r 0) : ¬ Cob R (fun _ => true) K := fun hc => by
  obtain ⟨c, hc⟩ := slb_iff.mp hc
  have h1 := h.2.2.2 c hc 0 (Nat.le_refl 0) (by decide) (fun j hj => absurd hj (Nat.not_lt_zero j))
  have := hc.1 0 (by decide)
  omega
theorem od_8 (h : Od R K 8 r) : Cob R (fun _ => true) K := slb_iff.mpr ⟨r, fun i hi => h.1 i hi, fun i j hi hj e => h.2.1 i j hi hj e⟩
theorem vr_co {r2 : Nat → Nat} : ∀ n, (∀ j, j < n → r j = r2 j) → Vr r n = Vr r2 n
  | 0, _ => rfl
  | n + 1, h => by show Vr r n + (r n + 1) * _ = Vr r2 n + (r2 n + 1) * _; rw [vr_co n (fun j hj => h j (by omega)), h n (by omega)]
theorem vr_le : ∀ n, n ≤ 9 → (∀ j, j < n → r j ≤ 14) → Vr r n + 16 ^ (9 - n) ≤ 16 ^ 9
  | 0, _, _ => Nat.le_of_eq (Nat.zero_add _)
  | n + 1, hn, h => by
    have ih := vr_le n (by omega) (fun j hj => h j (by omega))
    have e : 16 ^ (9 - n) = 16 * 16 ^ (8 - n) := by rw [show 9 - n = (8 - n) + 1 by omega, Nat.pow_succ, Nat.mul_comm]
    have h2 : (r n + 1) * 16 ^ (8 - n) ≤ 15 * 16 ^ (8 - n) := Nat.mul_le_mul_right _ (by have := h n (by omega); omega)
    show Vr r n + (r n + 1) * 16 ^ (8 - n) + 16 ^ (9 - (n + 1)) ≤ _
    rw [show 9 - (n + 1) = 8 - n by omega]
    omega
theorem vr_lt (hq : q ≤ 8) (hK : K ≤ 14) (h : Od R K q r) : Vr r (q + 1) < 68719476736 := by
  have h1 := vr_le (r := r) (q + 1) (by omega) (fun j hj => (lt_or j q hj).elim (fun a => by have := h.1 j a; omega) (fun a => by rw [a]; have := h.2.2.1; omega))
  have h2 : 0 < 16 ^ (9 - (q + 1)) := Nat.pow_pos (by decide)
  have h3 : (16 : Nat) ^ 9 = 68719476736 := by decide
  omega
theorem vr_A : Vr r (q + 1) + 1 ≤ Vr (upS r (q + 1) 0) (q + 1 + 1) := by
  show _ ≤ Vr (upS r (q + 1) 0) (q + 1) + (upS r (q + 1) 0 (q + 1) + 1) * 16 ^ (8 - (q + 1))
  rw [vr_co (r := upS r (q + 1) 0) (r2 := r) (q + 1) (fun j hj => upS_ne (by omega)), upS_eq, Nat.zero_add, Nat.one_mul]
  have h2 : 0 < 16 ^ (8 - (q + 1)) := Nat.pow_pos (by decide)
  omega
theorem vr_B : Vr r (q + 1) + 1 ≤ Vr (upS r q (r q + 1)) (q + 1) := by
  show Vr r q + (r q + 1) * 16 ^ (8 - q) + 1 ≤ Vr (upS r q (r q + 1)) q + (upS r q (r q + 1) q + 1) * 16 ^ (8 - q)
  rw [vr_co (r := upS r q (r q + 1)) (r2 := r) q (fun j hj => upS_ne (by omega)), upS_eq, Nat.succ_mul (r q + 1)]
  have h2 : 0 < 16 ^ (8 - q) := Nat.pow_pos (by decide)
  omega
theorem vr_C (hq : q < 8) (h : r (q + 1) ≤ 14) : Vr r (q + 1 + 1) + 1 ≤ Vr (upS r q (r q + 1)) (q + 1) := by
  show Vr r q + (r q + 1) * 16 ^ (8 - q) + (r (q + 1) + 1) * 16 ^ (8 - (q + 1)) + 1 ≤ Vr (upS r q (r q + 1)) q + (upS r q (r q + 1) q + 1) * 16 ^ (8 - q)
  rw [vr_co (r := upS r q (r q + 1)) (r2 := r) q (fun j hj => upS_ne (by omega)), upS_eq, Nat.succ_mul (r q + 1)]
  have e : 16 ^ (8 - q) = 16 * 16 ^ (8 - (q + 1)) := by rw [show 8 - q = (8 - (q + 1)) + 1 by omega, Nat.pow_succ, Nat.mul_comm]
  have h2 : 0 < 16 ^ (8 - (q + 1)) := Nat.pow_pos (by decide)
  have h3 : (r (q + 1) + 1) * 16 ^ (8 - (q + 1)) ≤ 15 * 16 ^ (8 - (q + 1)) := Nat.mul_le_mul_right _ (by omega)
  omega
/-- what the walk over the pots before q has found -/
def Bi (R : Nat → Nat → Bool) (K : Nat) (r : Nat → Nat) (q o : Nat) (b : Bool) : Prop := (b = true → r q < K ∧ ∀ o2, o2 < o → r o2 = r q → R o2 q = false) ∧ (b = false → ¬ Gd R K r q)
end OD
def mi (q : Nat) : Int32 := if q = 0 then -1 else nI (q - 1)
theorem mi_1 {q : Nat} (h : q ≤ 8) : nI q + Int32.ofInt (-1) = mi q := by
  have k : ∀ q, q < 9 → nI q + Int32.ofInt (-1) = mi q := by decide +kernel
  exact k q (by omega)
theorem mi_l {q : Nat} (h : q ≤ 8) : mi q < 0 ↔ q = 0 := by
  have k : ∀ q, q < 9 → (mi q < 0 ↔ q = 0) := by decide +kernel
  exact k q (by omega)
theorem rw_up {M : MM} {r : Nat → Nat} (h : ∀ j, j < 9 → M.1 89 j = nI (r j)) (k v : Nat) : ∀ j, j < 9 → (setR M 89 k (nI v)).1 89 j = nI (upS r k v j) := fun j hj => by
  rw [setR_eq]
  by_cases e : j = k
  · subst e; rw [upd_eq, upS_eq]
  · rw [upd_ne e, upS_ne e]; exact h j hj
theorem Sm.off89 {M M2 : MM} {t : Nat} {σ : Sg} (h : Sm M t σ) (ho : Off M M2 (fun a => a = 89)) : Sm M2 t σ := fun k hk => by rw [(ho.1 85 (by decide)).1]; exact h k hk

set_option maxHeartbeats 4000000 in
set_option maxRecDepth 100000 in
theorem cm_canDo {l : Launch} {G : GG} {M : MM} {σ : Sg} (hS : Sm M 0 σ) (hW : Wf σ) {p K : Nat} (hp : p < 4) (hK : K ≤ 9) {kb : Bool} (hkb : kb = true ↔ Cob (ap σ p) (fun _ => true) K) : Ct l G yX6_canDo wsX6_canDo 6 ([.ref (G.2.2 84), .int (nI p), .int (nI K)] : List Value) M (fun v9 M9 => v9 = some (.int (bI kb)) ∧ Off M M9 (fun a => a = 89)) := by
  have hr := ap_self σ p
  have hy := ap_sym σ p
  refine Ct.of (cc := cX6_canDo) (maxL := 6) (ret := (some .boolean)) (lv := [(0, .ref (G.2.2 84)), (1, .int (nI p)), (2, .int (nI K))]) (by decide) rfl rfl (Nat.le_of_ble_eq_true rfl) ?_
  intro pg ev sg mm bl mt cd AZ C hret
  refine j_iconst C dX6_canDo_0 (v := nI 0) (by decide) ?_
  refine j_istore_n C dX6_canDo_1 (by decide) ?_
  have L2 : ∀ k, k ≤ 9 → ∀ M2 : MM, (∀ j, j < k → M2.1 89 j = nI 0) → Off M M2 (fun a => a = 89) → J G pg l ev (rmD 6) sg mm ([.ref (G.2.2 84), .int (nI p), .int (nI K)] : List Value).toArray bl mt cd AZ 6 (MQ bl (QQ G (fun v9 M9 => v9 = some (.int (bI kb)) ∧ Off M M9 (fun a => a = 89)) AZ) ([.ref (G.2.2 84), .int (nI p), .int (nI K)] : List Value).toArray sg 0 0 AZ) 0 0 2 [(0, .ref (G.2.2 84)), (1, .int (nI p)), (2, .int (nI K)), (3, .int (nI k))] [] (M2) := by
    refine dnto ?_
    intro k hk2 ih2 M2 hm2 ho2
    refine j_iload_n C dX6_canDo_2 rfl ?_
    refine j_bipush C dX6_canDo_3 (v := nI 8) (by decide) ?_
    refine j_icmp_gtN C dX6_canDo_5 (tgt := 21) (by decide) (by omega) (by omega) (fun cq5 => ?_) (fun cq5 => ?_)
    · refine j_iconst C dX6_canDo_21 (v := nI 0) (by decide) ?_
      refine j_istore_n C dX6_canDo_22 (by decide) ?_
      have L23 : ∀ t, t ≤ 68719476736 → ∀ q, q ≤ 8 → ∀ (r : Nat → Nat) (M3 : MM), t ≤ Vr r (q + 1) → Od (ap σ p) K q r → (∀ j, j < 9 → M3.1 89 j = nI (r j)) → Off M M3 (fun a => a = 89) → J G pg l ev (rmD 6) sg mm ([.ref (G.2.2 84), .int (nI p), .int (nI K)] : List Value).toArray bl mt cd AZ 6 (MQ bl (QQ G (fun v9 M9 => v9 = some (.int (bI kb)) ∧ Off M M9 (fun a => a = 89)) AZ) ([.ref (G.2.2 84), .int (nI p), .int (nI K)] : List Value).toArray sg 0 0 AZ) 0 0 23 [(0, .ref (G.2.2 84)), (1, .int (nI p)), (2, .int (nI K)), (3, .int (nI q))] [] (M3) := by
        refine dnto ?_
        intro t ht23 ih23 q hq8 r M3 hV hO hm ho
        have hvl := vr_lt hq8 (by omega) hO
        have hS3 : Sm M3 0 σ := hS.off89 ho
        have hrq := hO.2.2.1
        refine j_iload_n C dX6_canDo_23 rfl ?_
        refine j_if_ltN C dX6_canDo_24 (tgt := 165) (by decide) (by omega) (fun cq24 => absurd cq24 (by omega)) (fun cq24 => ?_)
        refine j_iload_n C dX6_canDo_27 rfl ?_
        refine j_bipush C dX6_canDo_28 (v := nI 8) (by decide) ?_
        refine j_icmp_geN C dX6_canDo_30 (tgt := 165) (by decide) (by omega) (by omega) (fun cq30 => ?_) (fun cq30 => ?_)
        · have e8 : q = 8 := by omega
          subst e8
          have ek : kb = true := hkb.mpr (od_8 hO)
          refine j_iload_n C dX6_canDo_165 rfl ?_
          refine j_bipush C dX6_canDo_166 (v := nI 8) (by decide) ?_
          refine j_icmp_neN C dX6_canDo_168 (tgt := 175) (by decide) (by omega) (by omega) (fun cq168 => absurd cq168 (by omega)) (fun cq168 => ?_)
          refine j_iconst C dX6_canDo_171 (v := nI 1) (by decide) ?_
          refine j_top C (bI kb) (by rw [ek]; rfl) ?_
          refine j_goto C dX6_canDo_172 (tgt := 176) (by decide) ?_
          exact j_zreturn C hret dX6_canDo_176 ⟨rfl, ho⟩
        · refine j_aload_n C dX6_canDo_33 rfl ?_
          refine j_getf C dX6_canDo_34 rfl (by decide) (T := TX6) rfl in_X6_canDo_X6 (k := 7) (by decide) fl_X6_canDo_24 rfl rfl ?_
          refine j_iload_n C dX6_canDo_37 rfl ?_
          refine j_ialdN C dX6_canDo_38 (show ilen 89 = some 9 from rfl) (by omega) (by decide) ?_
          refine j_top C _ (hm q (by omega)) ?_
          refine j_iload_n C dX6_canDo_39 rfl ?_
          refine j_icmp_geN C dX6_canDo_40 (tgt := 47) (by decide) (by omega) (by omega) (fun cq40 => ?_) (fun cq40 => ?_)
          · refine j_iconst C dX6_canDo_47 (v := nI 0) (by decide) ?_
            refine j_top C (bI (decide (r q < K))) (by rw [decide_eq_false (by omega)]; rfl) ?_
            refine j_istore C dX6_canDo_48 (by decide) ?_
            refine j_iconst C dX6_canDo_50 (v := nI 0) (by decide) ?_
            refine j_istore C dX6_canDo_51 (by decide) ?_
            have L53 : ∀ o, o ≤ q → ∀ b, Bi (ap σ p) K r q o b → J G pg l ev (rmD 6) sg mm ([.ref (G.2.2 84), .int (nI p), .int (nI K)] : List Value).toArray bl mt cd AZ 6 (MQ bl (QQ G (fun v9 M9 => v9 = some (.int (bI kb)) ∧ Off M M9 (fun a => a = 89)) AZ) ([.ref (G.2.2 84), .int (nI p), .int (nI K)] : List Value).toArray sg 0 0 AZ) 0 0 53 [(0, .ref (G.2.2 84)), (1, .int (nI p)), (2, .int (nI K)), (3, .int (nI q)), (4, .int (bI b)), (5, .int (nI o))] [] (M3) := by
              refine dnto ?_
              intro o ho53 ih53 b hb
              refine j_iload C dX6_canDo_53 rfl ?_
              refine j_iload_n C dX6_canDo_55 rfl ?_
              refine j_icmp_geN C dX6_canDo_56 (tgt := 104) (by decide) (by omega) (by omega) (fun cq56 => ?_) (fun cq56 => ?_)
              · refine j_iload C dX6_canDo_104 rfl ?_
                refine j_if_eqB C dX6_canDo_106 (tgt := 122) (by decide) (fun cq106 => ?_) (fun cq106 => ?_)
                · refine j_aload_n C dX6_canDo_122 rfl ?_
                  refine j_getf C dX6_canDo_123 rfl (by decide) (T := TX6) rfl in_X6_canDo_X6 (k := 7) (by decide) fl_X6_canDo_24 rfl rfl ?_
                  refine j_iload_n C dX6_canDo_126 rfl ?_
                  refine j_ialdN C dX6_canDo_127 (show ilen 89 = some 9 from rfl) (by omega) (by decide) ?_
                  refine j_top C _ (hm q (by omega)) ?_
                  refine j_iload_n C dX6_canDo_128 rfl ?_
                  refine j_icmp_geN C dX6_canDo_129 (tgt := 145) (by decide) (by omega) (by omega) (fun cq129 => ?_) (fun cq129 => ?_)
                  · refine j_iinc C dX6_canDo_145 rfl (mi_1 (by omega)) (by decide) ?_
                    refine j_iload_n C dX6_canDo_148 rfl ?_
                    refine j_if_lt C dX6_canDo_149 (tgt := 162) (by decide) (fun cq149 => ?_) (fun cq149 => ?_)
                    · refine j_goto C dX6_canDo_162 (tgt := 23) (by decide) ?_
                      have e0 : q = 0 := (mi_l (by omega)).mp cq149
                      subst e0
                      have ek : kb = false := Bool.eq_false_iff.mpr (fun z => od_C0 hO cq129 (hkb.mp z))
                      refine j_iload_n C dX6_canDo_23 rfl ?_
                      refine j_if_lt C dX6_canDo_24 (tgt := 165) (by decide) (fun _ => ?_) (fun h => absurd cq149 h)
                      refine j_iload_n C dX6_canDo_165 rfl ?_
                      refine j_bipush C dX6_canDo_166 (v := nI 8) (by decide) ?_
                      refine j_icmp_ne C dX6_canDo_168 (tgt := 175) (by decide) (fun _ => ?_) (fun h => absurd h (by decide))
                      refine j_iconst C dX6_canDo_175 (v := nI 0) (by decide) ?_
                      refine j_top C (bI kb) (by rw [ek]; rfl) ?_
                      exact j_zreturn C hret dX6_canDo_176 ⟨rfl, ho⟩
                    · obtain ⟨q2, rfl⟩ : ∃ q2, q = q2 + 1 := ⟨q - 1, by have z : ¬ q = 0 := fun z => cq149 ((mi_l (by omega)).mpr z); omega⟩
                      refine j_lv [(0, .ref (G.2.2 84)), (1, .int (nI p)), (2, .int (nI K)), (3, .int (nI q2)), (4, .int (bI b)), (5, .int (nI o))] rfl ?_
                      refine j_aload_n C dX6_canDo_152 rfl ?_
                      refine j_getf C dX6_canDo_153 rfl (by decide) (T := TX6) rfl in_X6_canDo_X6 (k := 7) (by decide) fl_X6_canDo_24 rfl rfl ?_
                      refine j_iload_n C dX6_canDo_156 rfl ?_
                      refine j_dup2 C dX6_canDo_157 rfl rfl ?_
                      refine j_ialdN C dX6_canDo_158 (show ilen 89 = some 9 from rfl) (by omega) (by decide) ?_
                      refine j_top C _ (hm q2 (by omega)) ?_
                      refine j_iconst C dX6_canDo_159 (v := nI 1) (by decide) ?_
                      refine j_iaddN C dX6_canDo_160 ?_
                      refine j_iastN C dX6_canDo_161 (show ilen 89 = some 9 from rfl) (by omega) (by decide) ?_
                      refine j_goto C dX6_canDo_162 (tgt := 23) (by decide) ?_
                      exact j_pick [0, 1, 2, 3] (ih23 (by omega) q2 (by omega) (upS r q2 (r q2 + 1)) _ (Nat.le_trans (by omega) (vr_C (by omega) (by have := hO.2.2.1; omega))) (od_C (by omega) hO cq129) (rw_up hm q2 (r q2 + 1)) (ho.tr (Off.R rfl)))
                  · refine j_aload_n C dX6_canDo_132 rfl ?_
                    refine j_getf C dX6_canDo_133 rfl (by decide) (T := TX6) rfl in_X6_canDo_X6 (k := 7) (by decide) fl_X6_canDo_24 rfl rfl ?_
                    refine j_iload_n C dX6_canDo_136 rfl ?_
                    refine j_dup2 C dX6_canDo_137 rfl rfl ?_
                    refine j_ialdN C dX6_canDo_138 (show ilen 89 = some 9 from rfl) (by omega) (by decide) ?_
                    refine j_top C _ (hm q (by omega)) ?_
                    refine j_iconst C dX6_canDo_139 (v := nI 1) (by decide) ?_
                    refine j_iaddN C dX6_canDo_140 ?_
                    refine j_iastN C dX6_canDo_141 (show ilen 89 = some 9 from rfl) (by omega) (by decide) ?_
                    refine j_goto C dX6_canDo_142 (tgt := 162) (by decide) ?_
                    refine j_goto C dX6_canDo_162 (tgt := 23) (by decide) ?_
                    exact j_pick [0, 1, 2, 3] (ih23 (by omega) q (by omega) (upS r q (r q + 1)) _ (Nat.le_trans (by omega) vr_B) (od_B (by omega) hO (by omega) (hb.2 cq106)) (rw_up hm q (r q + 1)) (ho.tr (Off.R rfl)))
                · refine j_iincN C dX6_canDo_109 rfl (by decide) ?_
                  refine j_lv [(0, .ref (G.2.2 84)), (1, .int (nI p)), (2, .int (nI K)), (3, .int (nI (q + 1))), (4, .int (bI b)), (5, .int (nI o))] rfl ?_
                  refine j_aload_n C dX6_canDo_112 rfl ?_
                  refine j_getf C dX6_canDo_113 rfl (by decide) (T := TX6) rfl in_X6_canDo_X6 (k := 7) (by decide) fl_X6_canDo_24 rfl rfl ?_
                  refine j_iload_n C dX6_canDo_116 rfl ?_
                  refine j_iconst C dX6_canDo_117 (v := nI 0) (by decide) ?_
                  refine j_iastN C dX6_canDo_118 (show ilen 89 = some 9 from rfl) (by omega) (by decide) ?_
                  refine j_goto C dX6_canDo_119 (tgt := 162) (by decide) ?_
                  refine j_goto C dX6_canDo_162 (tgt := 23) (by decide) ?_
                  exact j_pick [0, 1, 2, 3] (ih23 (by omega) (q + 1) (by omega) (upS r (q + 1) 0) _ (Nat.le_trans (by omega) vr_A) (od_A hy hr hO ⟨(hb.1 cq106).1, fun o2 ho2 => (hb.1 cq106).2 o2 (by omega)⟩) (rw_up hm (q + 1) 0) (ho.tr (Off.R rfl)))
              · refine j_iload C dX6_canDo_59 rfl ?_
                refine j_if_eqB C dX6_canDo_61 (tgt := 104) (by decide) (fun cq61 => ?_) (fun cq61 => ?_)
                · refine j_iload C dX6_canDo_104 rfl ?_
                  refine j_if_eqB C dX6_canDo_106 (tgt := 122) (by decide) (fun cq106 => ?_) (fun cq106 => ?_)
                  · refine j_aload_n C dX6_canDo_122 rfl ?_
                    refine j_getf C dX6_canDo_123 rfl (by decide) (T := TX6) rfl in_X6_canDo_X6 (k := 7) (by decide) fl_X6_canDo_24 rfl rfl ?_
                    refine j_iload_n C dX6_canDo_126 rfl ?_
                    refine j_ialdN C dX6_canDo_127 (show ilen 89 = some 9 from rfl) (by omega) (by decide) ?_
                    refine j_top C _ (hm q (by omega)) ?_
                    refine j_iload_n C dX6_canDo_128 rfl ?_
                    refine j_icmp_geN C dX6_canDo_129 (tgt := 145) (by decide) (by omega) (by omega) (fun cq129 => ?_) (fun cq129 => ?_)
                    · refine j_iinc C dX6_canDo_145 rfl (mi_1 (by omega)) (by decide) ?_
                      refine j_iload_n C dX6_canDo_148 rfl ?_
                      refine j_if_lt C dX6_canDo_149 (tgt := 162) (by decide) (fun cq149 => ?_) (fun cq149 => ?_)
                      · refine j_goto C dX6_canDo_162 (tgt := 23) (by decide) ?_
                        have e0 : q = 0 := (mi_l (by omega)).mp cq149
                        subst e0
                        have ek : kb = false := Bool.eq_false_iff.mpr (fun z => od_C0 hO cq129 (hkb.mp z))
                        refine j_iload_n C dX6_canDo_23 rfl ?_
                        refine j_if_lt C dX6_canDo_24 (tgt := 165) (by decide) (fun _ => ?_) (fun h => absurd cq149 h)
                        refine j_iload_n C dX6_canDo_165 rfl ?_
                        refine j_bipush C dX6_canDo_166 (v := nI 8) (by decide) ?_
                        refine j_icmp_ne C dX6_canDo_168 (tgt := 175) (by decide) (fun _ => ?_) (fun h => absurd h (by decide))
                        refine j_iconst C dX6_canDo_175 (v := nI 0) (by decide) ?_
                        refine j_top C (bI kb) (by rw [ek]; rfl) ?_
                        exact j_zreturn C hret dX6_canDo_176 ⟨rfl, ho⟩
                      · obtain ⟨q2, rfl⟩ : ∃ q2, q = q2 + 1 := ⟨q - 1, by have z : ¬ q = 0 := fun z => cq149 ((mi_l (by omega)).mpr z); omega⟩
                        refine j_lv [(0, .ref (G.2.2 84)), (1, .int (nI p)), (2, .int (nI K)), (3, .int (nI q2)), (4, .int (bI b)), (5, .int (nI o))] rfl ?_
                        refine j_aload_n C dX6_canDo_152 rfl ?_
                        refine j_getf C dX6_canDo_153 rfl (by decide) (T := TX6) rfl in_X6_canDo_X6 (k := 7) (by decide) fl_X6_canDo_24 rfl rfl ?_
                        refine j_iload_n C dX6_canDo_156 rfl ?_
                        refine j_dup2 C dX6_canDo_157 rfl rfl ?_
                        refine j_ialdN C dX6_canDo_158 (show ilen 89 = some 9 from rfl) (by omega) (by decide) ?_
                        refine j_top C _ (hm q2 (by omega)) ?_
                        refine j_iconst C dX6_canDo_159 (v := nI 1) (by decide) ?_
                        refine j_iaddN C dX6_canDo_160 ?_
                        refine j_iastN C dX6_canDo_161 (show ilen 89 = some 9 from rfl) (by omega) (by decide) ?_
                        refine j_goto C dX6_canDo_162 (tgt := 23) (by decide) ?_
                        exact j_pick [0, 1, 2, 3] (ih23 (by omega) q2 (by omega) (upS r q2 (r q2 + 1)) _ (Nat.le_trans (by omega) (vr_C (by omega) (by have := hO.2.2.1; omega))) (od_C (by omega) hO cq129) (rw_up hm q2 (r q2 + 1)) (ho.tr (Off.R rfl)))
                    · refine j_aload_n C dX6_canDo_132 rfl ?_
                      refine j_getf C dX6_canDo_133 rfl (by decide) (T := TX6) rfl in_X6_canDo_X6 (k := 7) (by decide) fl_X6_canDo_24 rfl rfl ?_
                      refine j_iload_n C dX6_canDo_136 rfl ?_
                      refine j_dup2 C dX6_canDo_137 rfl rfl ?_
                      refine j_ialdN C dX6_canDo_138 (show ilen 89 = some 9 from rfl) (by omega) (by decide) ?_
                      refine j_top C _ (hm q (by omega)) ?_
                      refine j_iconst C dX6_canDo_139 (v := nI 1) (by decide) ?_
                      refine j_iaddN C dX6_canDo_140 ?_
                      refine j_iastN C dX6_canDo_141 (show ilen 89 = some 9 from rfl) (by omega) (by decide) ?_
                      refine j_goto C dX6_canDo_142 (tgt := 162) (by decide) ?_
                      refine j_goto C dX6_canDo_162 (tgt := 23) (by decide) ?_
                      exact j_pick [0, 1, 2, 3] (ih23 (by omega) q (by omega) (upS r q (r q + 1)) _ (Nat.le_trans (by omega) vr_B) (od_B (by omega) hO (by omega) (hb.2 cq106)) (rw_up hm q (r q + 1)) (ho.tr (Off.R rfl)))
                  · refine j_iincN C dX6_canDo_109 rfl (by decide) ?_
                    refine j_lv [(0, .ref (G.2.2 84)), (1, .int (nI p)), (2, .int (nI K)), (3, .int (nI (q + 1))), (4, .int (bI b)), (5, .int (nI o))] rfl ?_
                    refine j_aload_n C dX6_canDo_112 rfl ?_
                    refine j_getf C dX6_canDo_113 rfl (by decide) (T := TX6) rfl in_X6_canDo_X6 (k := 7) (by decide) fl_X6_canDo_24 rfl rfl ?_
                    refine j_iload_n C dX6_canDo_116 rfl ?_
                    refine j_iconst C dX6_canDo_117 (v := nI 0) (by decide) ?_
                    refine j_iastN C dX6_canDo_118 (show ilen 89 = some 9 from rfl) (by omega) (by decide) ?_
                    refine j_goto C dX6_canDo_119 (tgt := 162) (by decide) ?_
                    refine j_goto C dX6_canDo_162 (tgt := 23) (by decide) ?_
                    exact absurd (cq61.symm.trans cq106) (by decide)
                · refine j_aload_n C dX6_canDo_64 rfl ?_
                  refine j_getf C dX6_canDo_65 rfl (by decide) (T := TX6) rfl in_X6_canDo_X6 (k := 7) (by decide) fl_X6_canDo_24 rfl rfl ?_
                  refine j_iload C dX6_canDo_68 rfl ?_
                  refine j_ialdN C dX6_canDo_70 (show ilen 89 = some 9 from rfl) (by omega) (by decide) ?_
                  refine j_top C _ (hm o (by omega)) ?_
                  refine j_aload_n C dX6_canDo_71 rfl ?_
                  refine j_getf C dX6_canDo_72 rfl (by decide) (T := TX6) rfl in_X6_canDo_X6 (k := 7) (by decide) fl_X6_canDo_24 rfl rfl ?_
                  refine j_iload_n C dX6_canDo_75 rfl ?_
                  refine j_ialdN C dX6_canDo_76 (show ilen 89 = some 9 from rfl) (by omega) (by decide) ?_
                  refine j_top C _ (hm q (by omega)) ?_
                  have hro : r o < K := hO.1 o (by omega)
                  refine j_icmp_neN C dX6_canDo_77 (tgt := 91) (by decide) (by omega) (by omega) (fun cq77 => ?_) (fun cq77 => ?_)
                  · refine j_iconst C dX6_canDo_91 (v := nI 1) (by decide) ?_
                    refine j_top C (bI true) rfl ?_
                    refine j_goto C dX6_canDo_92 (tgt := 96) (by decide) ?_
                    refine j_istore C dX6_canDo_96 (by decide) ?_
                    refine j_iincN C dX6_canDo_98 rfl (by decide) ?_
                    refine j_goto C dX6_canDo_101 (tgt := 53) (by decide) ?_
                    exact ih53 (by omega) true ⟨fun _ => ⟨(hb.1 cq61).1, fun o2 h2 e2 => (lt_or o2 o h2).elim (fun z => (hb.1 cq61).2 o2 z e2) (fun z => absurd (z ▸ e2) cq77)⟩, fun z => absurd z (by decide)⟩
                  · refine j_aload_n C dX6_canDo_80 rfl ?_
                    refine j_iload_n C dX6_canDo_81 rfl ?_
                    refine j_iload C dX6_canDo_82 rfl ?_
                    refine j_iload_n C dX6_canDo_84 rfl ?_
                    refine j_callV C (cm_areApart hS3 hW hp (by omega) (by omega)) dX6_canDo_85 rfl (by decide) (T := TX6) rfl gX6_canDo_X6_areApart rfl kd_X6_areApart rfl rfl (Nat.le_of_ble_eq_true rfl) ⟨by decide, by decide⟩ ⟨Nat.zero_le _, Nat.zero_le _⟩ (k_I ?_)
                    refine j_if_neB C dX6_canDo_88 (tgt := 95) (by decide) (fun cq88 => ?_) (fun cq88 => ?_)
                    · refine j_iconst C dX6_canDo_95 (v := nI 0) (by decide) ?_
                      refine j_top C (bI false) rfl ?_
                      refine j_istore C dX6_canDo_96 (by decide) ?_
                      refine j_iincN C dX6_canDo_98 rfl (by decide) ?_
                      refine j_goto C dX6_canDo_101 (tgt := 53) (by decide) ?_
                      exact ih53 (by omega) false ⟨fun z => absurd z (by decide), fun _ z => by rw [z.2 o (by omega) cq77] at cq88; cases cq88⟩
                    · refine j_iconst C dX6_canDo_91 (v := nI 1) (by decide) ?_
                      refine j_top C (bI true) rfl ?_
                      refine j_goto C dX6_canDo_92 (tgt := 96) (by decide) ?_
                      refine j_istore C dX6_canDo_96 (by decide) ?_
                      refine j_iincN C dX6_canDo_98 rfl (by decide) ?_
                      refine j_goto C dX6_canDo_101 (tgt := 53) (by decide) ?_
                      exact ih53 (by omega) true ⟨fun _ => ⟨(hb.1 cq61).1, fun o2 h2 e2 => (lt_or o2 o h2).elim (fun z => (hb.1 cq61).2 o2 z e2) (fun z => by rw [z]; exact cq88)⟩, fun z => absurd z (by decide)⟩
            exact L53 0 (Nat.zero_le _) (decide (r q < K)) ⟨fun z => ⟨of_decide_eq_true z, fun o2 h2 => absurd h2 (Nat.not_lt_zero o2)⟩, fun z y => of_decide_eq_false z y.1⟩
          · refine j_iconst C dX6_canDo_43 (v := nI 1) (by decide) ?_
            refine j_top C (bI (decide (r q < K))) (by rw [decide_eq_true cq40]; rfl) ?_
            refine j_goto C dX6_canDo_44 (tgt := 48) (by decide) ?_
            refine j_istore C dX6_canDo_48 (by decide) ?_
            refine j_iconst C dX6_canDo_50 (v := nI 0) (by decide) ?_
            refine j_istore C dX6_canDo_51 (by decide) ?_
            have L53 : ∀ o, o ≤ q → ∀ b, Bi (ap σ p) K r q o b → J G pg l ev (rmD 6) sg mm ([.ref (G.2.2 84), .int (nI p), .int (nI K)] : List Value).toArray bl mt cd AZ 6 (MQ bl (QQ G (fun v9 M9 => v9 = some (.int (bI kb)) ∧ Off M M9 (fun a => a = 89)) AZ) ([.ref (G.2.2 84), .int (nI p), .int (nI K)] : List Value).toArray sg 0 0 AZ) 0 0 53 [(0, .ref (G.2.2 84)), (1, .int (nI p)), (2, .int (nI K)), (3, .int (nI q)), (4, .int (bI b)), (5, .int (nI o))] [] (M3) := by
              refine dnto ?_
              intro o ho53 ih53 b hb
              refine j_iload C dX6_canDo_53 rfl ?_
              refine j_iload_n C dX6_canDo_55 rfl ?_
              refine j_icmp_geN C dX6_canDo_56 (tgt := 104) (by decide) (by omega) (by omega) (fun cq56 => ?_) (fun cq56 => ?_)
              · refine j_iload C dX6_canDo_104 rfl ?_
                refine j_if_eqB C dX6_canDo_106 (tgt := 122) (by decide) (fun cq106 => ?_) (fun cq106 => ?_)
                · refine j_aload_n C dX6_canDo_122 rfl ?_
                  refine j_getf C dX6_canDo_123 rfl (by decide) (T := TX6) rfl in_X6_canDo_X6 (k := 7) (by decide) fl_X6_canDo_24 rfl rfl ?_
                  refine j_iload_n C dX6_canDo_126 rfl ?_
                  refine j_ialdN C dX6_canDo_127 (show ilen 89 = some 9 from rfl) (by omega) (by decide) ?_
                  refine j_top C _ (hm q (by omega)) ?_
                  refine j_iload_n C dX6_canDo_128 rfl ?_
                  refine j_icmp_geN C dX6_canDo_129 (tgt := 145) (by decide) (by omega) (by omega) (fun cq129 => ?_) (fun cq129 => ?_)
                  · refine j_iinc C dX6_canDo_145 rfl (mi_1 (by omega)) (by decide) ?_
                    refine j_iload_n C dX6_canDo_148 rfl ?_
                    refine j_if_lt C dX6_canDo_149 (tgt := 162) (by decide) (fun cq149 => ?_) (fun cq149 => ?_)
                    · refine j_goto C dX6_canDo_162 (tgt := 23) (by decide) ?_
                      have e0 : q = 0 := (mi_l (by omega)).mp cq149
                      subst e0
                      have ek : kb = false := Bool.eq_false_iff.mpr (fun z => od_C0 hO cq129 (hkb.mp z))
                      refine j_iload_n C dX6_canDo_23 rfl ?_
                      refine j_if_lt C dX6_canDo_24 (tgt := 165) (by decide) (fun _ => ?_) (fun h => absurd cq149 h)
                      refine j_iload_n C dX6_canDo_165 rfl ?_
                      refine j_bipush C dX6_canDo_166 (v := nI 8) (by decide) ?_
                      refine j_icmp_ne C dX6_canDo_168 (tgt := 175) (by decide) (fun _ => ?_) (fun h => absurd h (by decide))
                      refine j_iconst C dX6_canDo_175 (v := nI 0) (by decide) ?_
                      refine j_top C (bI kb) (by rw [ek]; rfl) ?_
                      exact j_zreturn C hret dX6_canDo_176 ⟨rfl, ho⟩
                    · obtain ⟨q2, rfl⟩ : ∃ q2, q = q2 + 1 := ⟨q - 1, by have z : ¬ q = 0 := fun z => cq149 ((mi_l (by omega)).mpr z); omega⟩
                      refine j_lv [(0, .ref (G.2.2 84)), (1, .int (nI p)), (2, .int (nI K)), (3, .int (nI q2)), (4, .int (bI b)), (5, .int (nI o))] rfl ?_
                      refine j_aload_n C dX6_canDo_152 rfl ?_
                      refine j_getf C dX6_canDo_153 rfl (by decide) (T := TX6) rfl in_X6_canDo_X6 (k := 7) (by decide) fl_X6_canDo_24 rfl rfl ?_
                      refine j_iload_n C dX6_canDo_156 rfl ?_
                      refine j_dup2 C dX6_canDo_157 rfl rfl ?_
                      refine j_ialdN C dX6_canDo_158 (show ilen 89 = some 9 from rfl) (by omega) (by decide) ?_
                      refine j_top C _ (hm q2 (by omega)) ?_
                      refine j_iconst C dX6_canDo_159 (v := nI 1) (by decide) ?_
                      refine j_iaddN C dX6_canDo_160 ?_
                      refine j_iastN C dX6_canDo_161 (show ilen 89 = some 9 from rfl) (by omega) (by decide) ?_
                      refine j_goto C dX6_canDo_162 (tgt := 23) (by decide) ?_
                      exact j_pick [0, 1, 2, 3] (ih23 (by omega) q2 (by omega) (upS r q2 (r q2 + 1)) _ (Nat.le_trans (by omega) (vr_C (by omega) (by have := hO.2.2.1; omega))) (od_C (by omega) hO cq129) (rw_up hm q2 (r q2 + 1)) (ho.tr (Off.R rfl)))
                  · refine j_aload_n C dX6_canDo_132 rfl ?_
                    refine j_getf C dX6_canDo_133 rfl (by decide) (T := TX6) rfl in_X6_canDo_X6 (k := 7) (by decide) fl_X6_canDo_24 rfl rfl ?_
                    refine j_iload_n C dX6_canDo_136 rfl ?_
                    refine j_dup2 C dX6_canDo_137 rfl rfl ?_
                    refine j_ialdN C dX6_canDo_138 (show ilen 89 = some 9 from rfl) (by omega) (by decide) ?_
                    refine j_top C _ (hm q (by omega)) ?_
                    refine j_iconst C dX6_canDo_139 (v := nI 1) (by decide) ?_
                    refine j_iaddN C dX6_canDo_140 ?_
                    refine j_iastN C dX6_canDo_141 (show ilen 89 = some 9 from rfl) (by omega) (by decide) ?_
                    refine j_goto C dX6_canDo_142 (tgt := 162) (by decide) ?_
                    refine j_goto C dX6_canDo_162 (tgt := 23) (by decide) ?_
                    exact j_pick [0, 1, 2, 3] (ih23 (by omega) q (by omega) (upS r q (r q + 1)) _ (Nat.le_trans (by omega) vr_B) (od_B (by omega) hO (by omega) (hb.2 cq106)) (rw_up hm q (r q + 1)) (ho.tr (Off.R rfl)))
                · refine j_iincN C dX6_canDo_109 rfl (by decide) ?_
                  refine j_lv [(0, .ref (G.2.2 84)), (1, .int (nI p)), (2, .int (nI K)), (3, .int (nI (q + 1))), (4, .int (bI b)), (5, .int (nI o))] rfl ?_
                  refine j_aload_n C dX6_canDo_112 rfl ?_
                  refine j_getf C dX6_canDo_113 rfl (by decide) (T := TX6) rfl in_X6_canDo_X6 (k := 7) (by decide) fl_X6_canDo_24 rfl rfl ?_
                  refine j_iload_n C dX6_canDo_116 rfl ?_
                  refine j_iconst C dX6_canDo_117 (v := nI 0) (by decide) ?_
                  refine j_iastN C dX6_canDo_118 (show ilen 89 = some 9 from rfl) (by omega) (by decide) ?_
                  refine j_goto C dX6_canDo_119 (tgt := 162) (by decide) ?_
                  refine j_goto C dX6_canDo_162 (tgt := 23) (by decide) ?_
                  exact j_pick [0, 1, 2, 3] (ih23 (by omega) (q + 1) (by omega) (upS r (q + 1) 0) _ (Nat.le_trans (by omega) vr_A) (od_A hy hr hO ⟨(hb.1 cq106).1, fun o2 ho2 => (hb.1 cq106).2 o2 (by omega)⟩) (rw_up hm (q + 1) 0) (ho.tr (Off.R rfl)))
              · refine j_iload C dX6_canDo_59 rfl ?_
                refine j_if_eqB C dX6_canDo_61 (tgt := 104) (by decide) (fun cq61 => ?_) (fun cq61 => ?_)
                · refine j_iload C dX6_canDo_104 rfl ?_
                  refine j_if_eqB C dX6_canDo_106 (tgt := 122) (by decide) (fun cq106 => ?_) (fun cq106 => ?_)
                  · refine j_aload_n C dX6_canDo_122 rfl ?_
                    refine j_getf C dX6_canDo_123 rfl (by decide) (T := TX6) rfl in_X6_canDo_X6 (k := 7) (by decide) fl_X6_canDo_24 rfl rfl ?_
                    refine j_iload_n C dX6_canDo_126 rfl ?_
                    refine j_ialdN C dX6_canDo_127 (show ilen 89 = some 9 from rfl) (by omega) (by decide) ?_
                    refine j_top C _ (hm q (by omega)) ?_
                    refine j_iload_n C dX6_canDo_128 rfl ?_
                    refine j_icmp_geN C dX6_canDo_129 (tgt := 145) (by decide) (by omega) (by omega) (fun cq129 => ?_) (fun cq129 => ?_)
                    · refine j_iinc C dX6_canDo_145 rfl (mi_1 (by omega)) (by decide) ?_
                      refine j_iload_n C dX6_canDo_148 rfl ?_
                      refine j_if_lt C dX6_canDo_149 (tgt := 162) (by decide) (fun cq149 => ?_) (fun cq149 => ?_)
                      · refine j_goto C dX6_canDo_162 (tgt := 23) (by decide) ?_
                        have e0 : q = 0 := (mi_l (by omega)).mp cq149
                        subst e0
                        have ek : kb = false := Bool.eq_false_iff.mpr (fun z => od_C0 hO cq129 (hkb.mp z))
                        refine j_iload_n C dX6_canDo_23 rfl ?_
                        refine j_if_lt C dX6_canDo_24 (tgt := 165) (by decide) (fun _ => ?_) (fun h => absurd cq149 h)
                        refine j_iload_n C dX6_canDo_165 rfl ?_
                        refine j_bipush C dX6_canDo_166 (v := nI 8) (by decide) ?_
                        refine j_icmp_ne C dX6_canDo_168 (tgt := 175) (by decide) (fun _ => ?_) (fun h => absurd h (by decide))
                        refine j_iconst C dX6_canDo_175 (v := nI 0) (by decide) ?_
                        refine j_top C (bI kb) (by rw [ek]; rfl) ?_
                        exact j_zreturn C hret dX6_canDo_176 ⟨rfl, ho⟩
                      · obtain ⟨q2, rfl⟩ : ∃ q2, q = q2 + 1 := ⟨q - 1, by have z : ¬ q = 0 := fun z => cq149 ((mi_l (by omega)).mpr z); omega⟩
                        refine j_lv [(0, .ref (G.2.2 84)), (1, .int (nI p)), (2, .int (nI K)), (3, .int (nI q2)), (4, .int (bI b)), (5, .int (nI o))] rfl ?_
                        refine j_aload_n C dX6_canDo_152 rfl ?_
                        refine j_getf C dX6_canDo_153 rfl (by decide) (T := TX6) rfl in_X6_canDo_X6 (k := 7) (by decide) fl_X6_canDo_24 rfl rfl ?_
                        refine j_iload_n C dX6_canDo_156 rfl ?_
                        refine j_dup2 C dX6_canDo_157 rfl rfl ?_
                        refine j_ialdN C dX6_canDo_158 (show ilen 89 = some 9 from rfl) (by omega) (by decide) ?_
                        refine j_top C _ (hm q2 (by omega)) ?_
                        refine j_iconst C dX6_canDo_159 (v := nI 1) (by decide) ?_
                        refine j_iaddN C dX6_canDo_160 ?_
                        refine j_iastN C dX6_canDo_161 (show ilen 89 = some 9 from rfl) (by omega) (by decide) ?_
                        refine j_goto C dX6_canDo_162 (tgt := 23) (by decide) ?_
                        exact j_pick [0, 1, 2, 3] (ih23 (by omega) q2 (by omega) (upS r q2 (r q2 + 1)) _ (Nat.le_trans (by omega) (vr_C (by omega) (by have := hO.2.2.1; omega))) (od_C (by omega) hO cq129) (rw_up hm q2 (r q2 + 1)) (ho.tr (Off.R rfl)))
                    · refine j_aload_n C dX6_canDo_132 rfl ?_
                      refine j_getf C dX6_canDo_133 rfl (by decide) (T := TX6) rfl in_X6_canDo_X6 (k := 7) (by decide) fl_X6_canDo_24 rfl rfl ?_
                      refine j_iload_n C dX6_canDo_136 rfl ?_
                      refine j_dup2 C dX6_canDo_137 rfl rfl ?_
                      refine j_ialdN C dX6_canDo_138 (show ilen 89 = some 9 from rfl) (by omega) (by decide) ?_
                      refine j_top C _ (hm q (by omega)) ?_
                      refine j_iconst C dX6_canDo_139 (v := nI 1) (by decide) ?_
                      refine j_iaddN C dX6_canDo_140 ?_
                      refine j_iastN C dX6_canDo_141 (show ilen 89 = some 9 from rfl) (by omega) (by decide) ?_
                      refine j_goto C dX6_canDo_142 (tgt := 162) (by decide) ?_
                      refine j_goto C dX6_canDo_162 (tgt := 23) (by decide) ?_
                      exact j_pick [0, 1, 2, 3] (ih23 (by omega) q (by omega) (upS r q (r q + 1)) _ (Nat.le_trans (by omega) vr_B) (od_B (by omega) hO (by omega) (hb.2 cq106)) (rw_up hm q (r q + 1)) (ho.tr (Off.R rfl)))
                  · refine j_iincN C dX6_canDo_109 rfl (by decide) ?_
                    refine j_lv [(0, .ref (G.2.2 84)), (1, .int (nI p)), (2, .int (nI K)), (3, .int (nI (q + 1))), (4, .int (bI b)), (5, .int (nI o))] rfl ?_
                    refine j_aload_n C dX6_canDo_112 rfl ?_
                    refine j_getf C dX6_canDo_113 rfl (by decide) (T := TX6) rfl in_X6_canDo_X6 (k := 7) (by decide) fl_X6_canDo_24 rfl rfl ?_
                    refine j_iload_n C dX6_canDo_116 rfl ?_
                    refine j_iconst C dX6_canDo_117 (v := nI 0) (by decide) ?_
                    refine j_iastN C dX6_canDo_118 (show ilen 89 = some 9 from rfl) (by omega) (by decide) ?_
                    refine j_goto C dX6_canDo_119 (tgt := 162) (by decide) ?_
                    refine j_goto C dX6_canDo_162 (tgt := 23) (by decide) ?_
                    exact absurd (cq61.symm.trans cq106) (by decide)
                · refine j_aload_n C dX6_canDo_64 rfl ?_
                  refine j_getf C dX6_canDo_65 rfl (by decide) (T := TX6) rfl in_X6_canDo_X6 (k := 7) (by decide) fl_X6_canDo_24 rfl rfl ?_
                  refine j_iload C dX6_canDo_68 rfl ?_
                  refine j_ialdN C dX6_canDo_70 (show ilen 89 = some 9 from rfl) (by omega) (by decide) ?_
                  refine j_top C _ (hm o (by omega)) ?_
                  refine j_aload_n C dX6_canDo_71 rfl ?_
                  refine j_getf C dX6_canDo_72 rfl (by decide) (T := TX6) rfl in_X6_canDo_X6 (k := 7) (by decide) fl_X6_canDo_24 rfl rfl ?_
                  refine j_iload_n C dX6_canDo_75 rfl ?_
                  refine j_ialdN C dX6_canDo_76 (show ilen 89 = some 9 from rfl) (by omega) (by decide) ?_
                  refine j_top C _ (hm q (by omega)) ?_
                  have hro : r o < K := hO.1 o (by omega)
                  refine j_icmp_neN C dX6_canDo_77 (tgt := 91) (by decide) (by omega) (by omega) (fun cq77 => ?_) (fun cq77 => ?_)
                  · refine j_iconst C dX6_canDo_91 (v := nI 1) (by decide) ?_
                    refine j_top C (bI true) rfl ?_
                    refine j_goto C dX6_canDo_92 (tgt := 96) (by decide) ?_
                    refine j_istore C dX6_canDo_96 (by decide) ?_
                    refine j_iincN C dX6_canDo_98 rfl (by decide) ?_
                    refine j_goto C dX6_canDo_101 (tgt := 53) (by decide) ?_
                    exact ih53 (by omega) true ⟨fun _ => ⟨(hb.1 cq61).1, fun o2 h2 e2 => (lt_or o2 o h2).elim (fun z => (hb.1 cq61).2 o2 z e2) (fun z => absurd (z ▸ e2) cq77)⟩, fun z => absurd z (by decide)⟩
                  · refine j_aload_n C dX6_canDo_80 rfl ?_
                    refine j_iload_n C dX6_canDo_81 rfl ?_
                    refine j_iload C dX6_canDo_82 rfl ?_
                    refine j_iload_n C dX6_canDo_84 rfl ?_
                    refine j_callV C (cm_areApart hS3 hW hp (by omega) (by omega)) dX6_canDo_85 rfl (by decide) (T := TX6) rfl gX6_canDo_X6_areApart rfl kd_X6_areApart rfl rfl (Nat.le_of_ble_eq_true rfl) ⟨by decide, by decide⟩ ⟨Nat.zero_le _, Nat.zero_le _⟩ (k_I ?_)
                    refine j_if_neB C dX6_canDo_88 (tgt := 95) (by decide) (fun cq88 => ?_) (fun cq88 => ?_)
                    · refine j_iconst C dX6_canDo_95 (v := nI 0) (by decide) ?_
                      refine j_top C (bI false) rfl ?_
                      refine j_istore C dX6_canDo_96 (by decide) ?_
                      refine j_iincN C dX6_canDo_98 rfl (by decide) ?_
                      refine j_goto C dX6_canDo_101 (tgt := 53) (by decide) ?_
                      exact ih53 (by omega) false ⟨fun z => absurd z (by decide), fun _ z => by rw [z.2 o (by omega) cq77] at cq88; cases cq88⟩
                    · refine j_iconst C dX6_canDo_91 (v := nI 1) (by decide) ?_
                      refine j_top C (bI true) rfl ?_
                      refine j_goto C dX6_canDo_92 (tgt := 96) (by decide) ?_
                      refine j_istore C dX6_canDo_96 (by decide) ?_
                      refine j_iincN C dX6_canDo_98 rfl (by decide) ?_
                      refine j_goto C dX6_canDo_101 (tgt := 53) (by decide) ?_
                      exact ih53 (by omega) true ⟨fun _ => ⟨(hb.1 cq61).1, fun o2 h2 e2 => (lt_or o2 o h2).elim (fun z => (hb.1 cq61).2 o2 z e2) (fun z => by rw [z]; exact cq88)⟩, fun z => absurd z (by decide)⟩
            exact L53 0 (Nat.zero_le _) (decide (r q < K)) ⟨fun z => ⟨of_decide_eq_true z, fun o2 h2 => absurd h2 (Nat.not_lt_zero o2)⟩, fun z y => of_decide_eq_false z y.1⟩
      exact j_pick [0, 1, 2, 3] (L23 0 (by omega) 0 (by omega) (fun _ => 0) M2 (Nat.zero_le _) od_0 (fun j hj => hm2 j (by omega)) ho2)
    · refine j_aload_n C dX6_canDo_8 rfl ?_
      refine j_getf C dX6_canDo_9 rfl (by decide) (T := TX6) rfl in_X6_canDo_X6 (k := 7) (by decide) fl_X6_canDo_24 rfl rfl ?_
      refine j_iload_n C dX6_canDo_12 rfl ?_
      refine j_iconst C dX6_canDo_13 (v := nI 0) (by decide) ?_
      refine j_iastN C dX6_canDo_14 (show ilen 89 = some 9 from rfl) (by omega) (by decide) ?_
      refine j_iincN C dX6_canDo_15 rfl (by decide) ?_
      refine j_goto C dX6_canDo_18 (tgt := 2) (by decide) ?_
      exact ih2 (by omega) _ (fun j hj => (lt_or j k hj).elim (fun z => by rw [setR_eq, upd_ne (by omega)]; exact hm2 j z) (fun z => by rw [setR_eq, z, upd_eq])) (ho2.tr (Off.R rfl))
  exact L2 0 (by omega) M (fun j hj => absurd hj (Nat.not_lt_zero j)) Off.rf

set_option maxRecDepth 20000 in
theorem ks_X2_fewestFrom : yX2_fewestFrom.cls ≠ "java/lang/invoke/MethodHandle" ∧ yX2_fewestFrom.cls ≠ "java/lang/invoke/VarHandle" ∧ (parseMethodDescriptor yX2_fewestFrom.desc).map (fun d => d.parameters.length) = some 5 := by decide +kernel
set_option maxRecDepth 20000 in
theorem in_X2_fewestByTrying_X2 : ∀ w ∈ wsX20, w ∈ wsX2_fewestByTrying := by decide +kernel
set_option maxRecDepth 20000 in
theorem fl_X2_fewestByTrying_9 : Cond.fieldLink RX2 9 "PotLabels$Labelling" "rivals" "[I" ∈ wsX2_fewestByTrying := by decide +kernel
set_option maxRecDepth 20000 in
theorem fl_X2_fewestByTrying_22 : Cond.fieldLink RX2 22 "PotLabels$Labelling" "bearers" "[I" ∈ wsX2_fewestByTrying := by decide +kernel
/-! trying: the labels of the pots before this one stand -/
def uc (c : Nat → Nat) (p l : Nat) : Nat → Nat := fun q => if q = p then l else c q
def us (l u : Nat) : Nat := if l = u then u + 1 else u
def Exb (R : Nat → Nat → Bool) (c : Nat → Nat) (p k : Nat) : Prop := ∃ c2 : Nat → Nat, (∀ q, q < p → c2 q = c q) ∧ (∀ i, i < 8 → c2 i < k) ∧ ∀ i j, i < 8 → j < 8 → c2 i = c2 j → R i j = false
def bea (c : Nat → Nat) (p l : Nat) : Nat := mkm (fun q => decide (c q = l)) p
def Fp (R : Nat → Nat → Bool) (M : MM) (p u kn : Nat) (c : Nat → Nat) : Prop := u ≤ p ∧ kn ≤ 8 ∧ (∀ q, q < p → c q < u) ∧ (∀ a b, a < p → b < p → c a = c b → R a b = false) ∧ (∀ i, i < 8 → M.1 80 i = nI (mkm (R i) 8)) ∧ ∀ l, l < 8 → M.1 83 l = nI (bea c p l)
def Fr3 (R : Nat → Nat → Bool) (c : Nat → Nat) (p u kn r : Nat) : Prop := r ≤ kn ∧ (r = kn ∨ (u ≤ r ∧ Exb R c p r)) ∧ ∀ k, u ≤ k → Exb R c p k → r ≤ k
/-- label l is free for pot p -/
def Fre (R : Nat → Nat → Bool) (c : Nat → Nat) (p l : Nat) : Prop := ∀ q, q < p → c q = l → R p q = false
/-- the labels below l have been tried -/
def Li (R : Nat → Nat → Bool) (c : Nat → Nat) (p u kn l f : Nat) : Prop := f ≤ kn ∧ (f = kn ∨ (u ≤ f ∧ Exb R c p f)) ∧ ∀ l2, l2 < l → Fre R c p l2 → ∀ k, us l2 u ≤ k → Exb R (uc c p l2) (p + 1) k → f ≤ k
theorem us_le {l u : Nat} : u ≤ us l u := by unfold us; by_cases e : l = u <;> simp [e]
theorem us_lt {l u : Nat} (h : l ≤ u) : l < us l u := by
  unfold us
  by_cases e : l = u
  · rw [if_pos e]; omega
  · rw [if_neg e]; omega
theorem us_le1 {l u : Nat} : us l u ≤ u + 1 := by
  unfold us
  by_cases e : l = u
  · rw [if_pos e]; omega
  · rw [if_neg e]; omega
theorem uc_eq {c : Nat → Nat} {p l : Nat} : uc c p l p = l := if_pos rfl
theorem uc_ne {c : Nat → Nat} {p l q : Nat} (h : q ≠ p) : uc c p l q = c q := if_neg h
theorem mkm_co {T U : Nat → Bool} : ∀ {n : Nat}, (∀ i, i < n → T i = U i) → mkm T n = mkm U n
  | 0, _ => rfl
  | n + 1, h => by rw [mkm_s, mkm_s, mkm_co (fun i hi => h i (by omega)), h n (by omega)]
theorem bea_s1 {c : Nat → Nat} {p l : Nat} : bea (uc c p l) (p + 1) l = bea c p l ||| 2 ^ p := by
  unfold bea
  rw [mkm_s, uc_eq, decide_eq_true rfl, mkm_co (fun i hi => by rw [uc_ne (by omega)])]; rfl
theorem bea_s2 {c : Nat → Nat} {p l l2 : Nat} (h : l2 ≠ l) : bea (uc c p l) (p + 1) l2 = bea c p l2 := by
  unfold bea
  rw [mkm_s, uc_eq, decide_eq_false (fun e => h e.symm), mkm_co (fun i hi => by rw [uc_ne (by omega)])]
  exact Nat.or_zero _
theorem bea_lt {c : Nat → Nat} {p l : Nat} : bea c p l < 2 ^ p := mkm_lt _ p
theorem bea_fre {R : Nat → Nat → Bool} {c : Nat → Nat} {p l : Nat} (hp : p < 8) : bea c p l &&& mkm (R p) 8 = 0 ↔ Fre R c p l := by
  have h8 : 2 ^ p ≤ 128 := Nat.pow_le_pow_right (n := 2) (by decide) (show p ≤ 7 by omega)
  have hl := bea_lt (c := c) (p := p) (l := l)
  constructor
  · intro h q hq e
    have h2 : bit (bea c p l &&& mkm (R p) 8) q = bit 0 q := congrArg (fun z => bit z q) h
    unfold bea at h2
    rw [bit_an, bit_0, mkm_bit _ p q hq, mkm_bit _ 8 q (by omega), decide_eq_true e, Bool.true_and] at h2
    exact h2
  · intro h
    refine bit_ext (Nat.lt_of_le_of_lt Nat.and_le_left (by omega)) (by decide) fun i hi => ?_
    unfold bea
    rw [bit_an, bit_0, mkm_bit _ 8 i hi]
    rcases Nat.lt_or_ge i p with q | q
    · rw [mkm_bit _ p i q]
      by_cases e : c i = l
      · rw [h i q e, Bool.and_false]
      · rw [decide_eq_false e, Bool.false_and]
    · rw [mkm_hi _ q, Bool.false_and]
theorem cl_bit {a p : Nat} (hp : p < 8) (h : a < 2 ^ p) : nI (a ||| 2 ^ p) &&& (nI (2 ^ p) ^^^ -1) = nI a := by
  have q : ∀ p, p < 8 → ∀ a, a < 2 ^ p → nI (a ||| 2 ^ p) &&& (nI (2 ^ p) ^^^ -1) = nI a := by decide +kernel
  exact q p hp a h
theorem sR_back {M : MM} {i l : Nat} {x v : Int32} (h : M.1 i l = v) : setR (setR M i l x) i l v = M := by
  refine Prod.ext ?_ rfl
  funext a
  by_cases e : a = i
  · subst e
    rw [setR_eq, setR_eq]
    funext j
    by_cases e2 : j = l
    · subst e2; rw [upd_eq, h]
    · rw [upd_ne e2, upd_ne e2]
  · rw [setR_ne e, setR_ne e]
theorem sw_inj {x y a u : Nat} (h : (if x = a then u else if x = u then a else x) = (if y = a then u else if y = u then a else y)) : x = y := by
  by_cases p : x = a
  · rw [if_pos p] at h
    by_cases q : y = a
    · omega
    · rw [if_neg q] at h
      by_cases r : y = u
      · rw [if_pos r] at h; omega
      · rw [if_neg r] at h; omega
  · rw [if_neg p] at h
    by_cases p2 : x = u
    · rw [if_pos p2] at h
      by_cases q : y = a
      · rw [if_pos q] at h; omega
      · rw [if_neg q] at h
        by_cases r : y = u
        · omega
        · rw [if_neg r] at h; omega
    · rw [if_neg p2] at h
      by_cases q : y = a
      · rw [if_pos q] at h; omega
      · rw [if_neg q] at h
        by_cases r : y = u
        · rw [if_pos r] at h; omega
        · rw [if_neg r] at h; exact h
section FQ
variable {R : Nat → Nat → Bool} {c : Nat → Nat} {p u kn l f r : Nat} {M : MM}
theorem Exb.of (h : Exb R (uc c p l) (p + 1) f) : Exb R c p f := by
  obtain ⟨c2, h1, h2, h3⟩ := h
  exact ⟨c2, fun q hq => (h1 q (by omega)).trans (uc_ne (by omega)), h2, h3⟩
theorem Fr3.stop (h : kn ≤ u) : Fr3 R c p u kn kn := ⟨Nat.le_refl _, Or.inl rfl, fun k hk _ => Nat.le_trans h hk⟩
theorem Fr3.all (h : Fp R M 8 u kn c) (hk : u < kn) : Fr3 R c 8 u kn u := ⟨Nat.le_of_lt hk, Or.inr ⟨Nat.le_refl u, c, fun _ _ => rfl, h.2.2.1, fun i j hi hj e => h.2.2.2.1 i j hi hj e⟩, fun k hk _ => hk⟩
theorem Li.z : Li R c p u kn 0 kn := ⟨Nat.le_refl _, Or.inl rfl, fun l2 h => absurd h (Nat.not_lt_zero l2)⟩
theorem Li.no (h : Li R c p u kn l f) (hn : ¬ Fre R c p l) : Li R c p u kn (l + 1) f := ⟨h.1, h.2.1, fun l2 hl hf => (lt_or l2 l hl).elim (fun q => h.2.2 l2 q hf) (fun q => absurd (q ▸ hf) hn)⟩
theorem Li.yes (h : Li R c p u kn l f) (hr : Fr3 R (uc c p l) (p + 1) (us l u) f r) : Li R c p u kn (l + 1) r := by
  refine ⟨Nat.le_trans hr.1 h.1, ?_, fun l2 hl hf k hk he => (lt_or l2 l hl).elim (fun q => Nat.le_trans hr.1 (h.2.2 l2 q hf k hk he)) (fun q => by subst q; exact hr.2.2 k hk he)⟩
  rcases hr.2.1 with q | ⟨q1, q2⟩
  · rw [q]; exact h.2.1
  · exact Or.inr ⟨Nat.le_trans us_le q1, q2.of⟩
theorem Li.fin (hF : Fp R M p u kn c) (hp : p < 8) (h : Li R c p u kn (u + 1) f) : Fr3 R c p u kn f := by
  refine ⟨h.1, h.2.1, fun k hk he => ?_⟩
  obtain ⟨c2, h1, h2, h3⟩ := he
  have hcu := hF.2.2.1
  rcases Nat.lt_or_ge (c2 p) u with q | q
  · refine h.2.2 (c2 p) (by omega) (fun a ha e => h3 p a hp (by omega) ((h1 a ha).trans e).symm) k (by unfold us; rw [if_neg (by omega)]; exact hk) ⟨c2, fun a ha => ?_, h2, h3⟩
    by_cases e : a = p
    · subst e; exact uc_eq.symm
    · rw [uc_ne e]; exact h1 a (by omega)
  · have hk2 := h2 p hp
    have hsw : ∀ i, i < 8 → (if c2 i = c2 p then u else if c2 i = u then c2 p else c2 i) < k := fun i hi => by
      have := h2 i hi
      by_cases a : c2 i = c2 p
      · rw [if_pos a]; omega
      · rw [if_neg a]
        by_cases b : c2 i = u
        · rw [if_pos b]; omega
        · rw [if_neg b]; exact this
    refine h.2.2 u (by omega) (fun a ha e => absurd (hcu a ha) (by omega)) k (by unfold us; rw [if_pos rfl]; omega) ⟨fun i => if c2 i = c2 p then u else if c2 i = u then c2 p else c2 i, fun a ha => ?_, hsw, fun i j hi hj e => ?_⟩
    · show (if c2 a = c2 p then u else if c2 a = u then c2 p else c2 a) = _
      by_cases e : a = p
      · subst e; rw [if_pos rfl, uc_eq]
      · have := hcu a (by omega)
        rw [h1 a (by omega), if_neg (by omega), if_neg (by omega), uc_ne e]
    · have e2 : (if c2 i = c2 p then u else if c2 i = u then c2 p else c2 i) = (if c2 j = c2 p then u else if c2 j = u then c2 p else c2 j) := e
      exact h3 i j hi hj (sw_inj e2)
theorem Fp.next (hy : ∀ i j, R i j = R j i) (hr : ∀ i, R i i = false) (hF : Fp R M p u kn c) (hl : l ≤ u) (hl8 : l < 8) (hf : f ≤ kn) (hfr : Fre R c p l) : Fp R (setR M 83 l (nI (bea c p l ||| 2 ^ p))) (p + 1) (us l u) f (uc c p l) := by
  obtain ⟨h1, h2, h3, h4, h5, h6⟩ := hF
  refine ⟨Nat.le_trans us_le1 (by omega), by omega, fun q hq => ?_, fun a b ha hb e => ?_, fun i hi => by rw [setR_ne (by decide)]; exact h5 i hi, fun l2 hl2 => ?_⟩
  · by_cases e : q = p
    · subst e; rw [uc_eq]; exact us_lt hl
    · rw [uc_ne e]; exact Nat.lt_of_lt_of_le (h3 q (by omega)) us_le
  · by_cases e1 : a = p
    · by_cases e2 : b = p
      · subst e1; subst e2; exact hr _
      · subst e1; rw [uc_eq, uc_ne e2] at e; exact hfr b (by omega) e.symm
    · by_cases e2 : b = p
      · subst e2; rw [uc_ne e1, uc_eq] at e; rw [hy]; exact hfr a (by omega) e
      · rw [uc_ne e1, uc_ne e2] at e; exact h4 a b (by omega) (by omega) e
  · rw [setR_eq]
    by_cases e : l2 = l
    · subst e; rw [upd_eq, bea_s1]
    · rw [upd_ne e, bea_s2 e]; exact h6 l2 hl2
end FQ
section FK
variable {G : GG} {p : Program} {l : Launch} {e : Env} {R : Room} {s : State} {m : MethodId} {args : Array Value} {below : List Frame} {meth : Method} {c : Code} {A : Nat → Prop} {nL : Nat} {Q : State → Prop} {k9 n9 : Nat} {lv : List (Nat × Value)}
theorem k_EI {P : Nat → Prop} {M1 : MM} {rest : List Value} {pc1 : Nat} (k : ∀ r, P r → J G p l e R s m args below meth c A nL Q k9 n9 pc1 lv (.int (nI r) :: rest) M1) : ∀ (v : Option Value) (M' : MM), (∃ r, v = some (.int (nI r)) ∧ M' = M1 ∧ P r) → J G p l e R s m args below meth c A nL Q k9 n9 pc1 lv (v.toList ++ rest) M' := by
  rintro v M' ⟨r, rfl, rfl, h⟩; exact k r h
end FK

set_option maxHeartbeats 4000000 in
set_option maxRecDepth 100000 in
theorem ct_from8 {l : Launch} {G : GG} {M : MM} {R : Nat → Nat → Bool} {u kn : Nat} {c : Nat → Nat} (hF : Fp R M 8 u kn c) : Ct l G yX2_fewestFrom wsX2_fewestFrom 1 ([.ref (G.2.2 80), .ref (G.2.2 83), .int (nI 8), .int (nI u), .int (nI kn)] : List Value) M (fun v9 M9 => ∃ r, v9 = some (.int (nI r)) ∧ M9 = M ∧ Fr3 R c 8 u kn r) := by
  obtain ⟨f1, f2, f3, f4, f5, f6⟩ := id hF
  refine Ct.of (cc := cX2_fewestFrom) (maxL := 8) (ret := (some .int)) (lv := [(0, .ref (G.2.2 80)), (1, .ref (G.2.2 83)), (2, .int (nI 8)), (3, .int (nI u)), (4, .int (nI kn))]) (by decide) rfl rfl (Nat.le_of_ble_eq_true rfl) ?_
  intro pg ev sg mm bl mt cd AZ C hret
  refine j_iload_n C dX2_fewestFrom_0 rfl ?_
  refine j_iload C dX2_fewestFrom_1 rfl ?_
  refine j_icmp_ltN C dX2_fewestFrom_3 (tgt := 9) (by decide) (by omega) (by omega) (fun cq3 => ?_) (fun cq3 => ?_)
  · refine j_iload_n C dX2_fewestFrom_9 rfl ?_
    refine j_bipush C dX2_fewestFrom_10 (v := nI 8) (by decide) ?_
    refine j_icmp_ltN C dX2_fewestFrom_12 (tgt := 17) (by decide) (by omega) (by omega) (fun cq12 => absurd cq12 (by omega)) (fun cq12 => ?_)
    refine j_iload_n C dX2_fewestFrom_15 rfl ?_
    exact j_ireturn C hret dX2_fewestFrom_16 ⟨u, rfl, rfl, Fr3.all hF cq3⟩
  · refine j_iload C dX2_fewestFrom_6 rfl ?_
    exact j_ireturn C hret dX2_fewestFrom_8 ⟨kn, rfl, rfl, Fr3.stop (by omega)⟩

theorem rmD_s {n x : Nat} (h : 8 + x ≤ 48) : n + 1 ≤ (rmD (n + 1)).frames ∧ 8 + x + (rmD n).locals ≤ (rmD (n + 1)).locals := ⟨Nat.le_refl _, by show 8 + x + 48 * n ≤ 48 * (n + 1); omega⟩

set_option maxHeartbeats 4000000 in
set_option maxRecDepth 100000 in
theorem ct_fromS {l : Launch} {G : GG} {M : MM} {R : Nat → Nat → Bool} (hy : ∀ i j, R i j = R j i) (hr : ∀ i, R i i = false) {n p u kn : Nat} {c : Nat → Nat} (hp : p < 8) (hF : Fp R M p u kn c) (ih : ∀ (u kn : Nat) (c : Nat → Nat) (M : MM), Fp R M (p + 1) u kn c → Ct l G yX2_fewestFrom wsX2_fewestFrom n ([.ref (G.2.2 80), .ref (G.2.2 83), .int (nI (p + 1)), .int (nI u), .int (nI kn)] : List Value) M (fun v9 M9 => ∃ r, v9 = some (.int (nI r)) ∧ M9 = M ∧ Fr3 R c (p + 1) u kn r)) : Ct l G yX2_fewestFrom wsX2_fewestFrom (n + 1) ([.ref (G.2.2 80), .ref (G.2.2 83), .int (nI p), .int (nI u), .int (nI kn)] : List Value) M (fun v9 M9 => ∃ r, v9 = some (.int (nI r)) ∧ M9 = M ∧ Fr3 R c p u kn r) := by
  obtain ⟨f1, f2, f3, f4, f5, f6⟩ := id hF
  have h8 : 2 ^ p ≤ 128 := Nat.pow_le_pow_right (n := 2) (by decide) (show p ≤ 7 by omega)
  refine Ct.of (cc := cX2_fewestFrom) (maxL := 8) (ret := (some .int)) (lv := [(0, .ref (G.2.2 80)), (1, .ref (G.2.2 83)), (2, .int (nI p)), (3, .int (nI u)), (4, .int (nI kn))]) (by decide) rfl rfl (Nat.le_of_ble_eq_true rfl) ?_
  intro pg ev sg mm bl mt cd AZ C hret
  refine j_iload_n C dX2_fewestFrom_0 rfl ?_
  refine j_iload C dX2_fewestFrom_1 rfl ?_
  refine j_icmp_ltN C dX2_fewestFrom_3 (tgt := 9) (by decide) (by omega) (by omega) (fun cq3 => ?_) (fun cq3 => ?_)
  · refine j_iload_n C dX2_fewestFrom_9 rfl ?_
    refine j_bipush C dX2_fewestFrom_10 (v := nI 8) (by decide) ?_
    refine j_icmp_ltN C dX2_fewestFrom_12 (tgt := 17) (by decide) (by omega) (by omega) (fun cq12 => ?_) (fun cq12 => absurd cq12 (by omega))
    refine j_iload C dX2_fewestFrom_17 rfl ?_
    refine j_istore C dX2_fewestFrom_19 (by decide) ?_
    refine j_iconst C dX2_fewestFrom_21 (v := nI 0) (by decide) ?_
    refine j_istore C dX2_fewestFrom_22 (by decide) ?_
    have L24 : ∀ lb, lb ≤ u + 1 → ∀ f, Li R c p u kn lb f → J G pg l ev (rmD (n + 1)) sg mm ([.ref (G.2.2 80), .ref (G.2.2 83), .int (nI p), .int (nI u), .int (nI kn)] : List Value).toArray bl mt cd AZ 8 (MQ bl (QQ G (fun v9 M9 => ∃ r, v9 = some (.int (nI r)) ∧ M9 = M ∧ Fr3 R c p u kn r) AZ) ([.ref (G.2.2 80), .ref (G.2.2 83), .int (nI p), .int (nI u), .int (nI kn)] : List Value).toArray sg 0 0 AZ) 0 0 24 [(0, .ref (G.2.2 80)), (1, .ref (G.2.2 83)), (2, .int (nI p)), (3, .int (nI u)), (4, .int (nI kn)), (5, .int (nI f)), (6, .int (nI lb))] [] (M) := by
      refine dnto ?_
      intro lb hl24 ih24 f hL
      have hfk := hL.1
      refine j_iload C dX2_fewestFrom_24 rfl ?_
      refine j_iload_n C dX2_fewestFrom_26 rfl ?_
      refine j_icmp_gtN C dX2_fewestFrom_27 (tgt := 105) (by decide) (by omega) (by omega) (fun cq27 => ?_) (fun cq27 => ?_)
      · have e9 : lb = u + 1 := by omega
        subst e9
        refine j_iload C dX2_fewestFrom_105 rfl ?_
        exact j_ireturn C hret dX2_fewestFrom_107 ⟨f, rfl, rfl, hL.fin hF hp⟩
      · refine j_iload C dX2_fewestFrom_30 rfl ?_
        refine j_bipush C dX2_fewestFrom_32 (v := nI 8) (by decide) ?_
        refine j_icmp_geN C dX2_fewestFrom_34 (tgt := 105) (by decide) (by omega) (by omega) (fun cq34 => absurd cq34 (by omega)) (fun cq34 => ?_)
        refine j_aload_n C dX2_fewestFrom_37 rfl ?_
        refine j_iload C dX2_fewestFrom_38 rfl ?_
        refine j_ialdN C dX2_fewestFrom_40 (show ilen 83 = some 8 from rfl) (by omega) (by decide) ?_
        refine j_top C _ (f6 lb (by omega)) ?_
        refine j_aload_n C dX2_fewestFrom_41 rfl ?_
        refine j_iload_n C dX2_fewestFrom_42 rfl ?_
        refine j_ialdN C dX2_fewestFrom_43 (show ilen 80 = some 8 from rfl) (by omega) (by decide) ?_
        refine j_top C _ (f5 p hp) ?_
        have hb9 := bea_lt (c := c) (p := p) (l := lb)
        have ha9 : bea c p lb &&& mkm (R p) 8 ≤ bea c p lb := Nat.and_le_left
        refine j_iand C dX2_fewestFrom_44 ?_
        refine j_top C (_) (nI_and (by omega) (mk31 _ (Nat.le_refl 8))) ?_
        refine j_if_neN C dX2_fewestFrom_45 (tgt := 99) (by decide) (by omega) (fun cq45 => ?_) (fun cq45 => ?_)
        · refine j_iincN C dX2_fewestFrom_99 rfl (by decide) ?_
          refine j_goto C dX2_fewestFrom_102 (tgt := 24) (by decide) ?_
          exact ih24 (by omega) f (hL.no (fun q => cq45 ((bea_fre hp).mpr q)))
        · have hfre := (bea_fre hp).mp cq45
          refine j_aload_n C dX2_fewestFrom_48 rfl ?_
          refine j_iload C dX2_fewestFrom_49 rfl ?_
          refine j_dup2 C dX2_fewestFrom_51 rfl rfl ?_
          refine j_ialdN C dX2_fewestFrom_52 (show ilen 83 = some 8 from rfl) (by omega) (by decide) ?_
          refine j_top C _ (f6 lb (by omega)) ?_
          refine j_iconst C dX2_fewestFrom_53 (v := nI 1) (by decide) ?_
          refine j_iload_n C dX2_fewestFrom_54 rfl ?_
          refine j_ishl C dX2_fewestFrom_55 ?_
          refine j_top C (_) (nI_shl1 (by omega)) ?_
          refine j_ior C dX2_fewestFrom_56 ?_
          refine j_top C (_) (nI_or (by omega) (by omega)) ?_
          refine j_iastN C dX2_fewestFrom_57 (show ilen 83 = some 8 from rfl) (by omega) (by decide) ?_
          refine j_iload C dX2_fewestFrom_58 rfl ?_
          refine j_iload_n C dX2_fewestFrom_60 rfl ?_
          refine j_icmp_neN C dX2_fewestFrom_61 (tgt := 70) (by decide) (by omega) (by omega) (fun cq61 => ?_) (fun cq61 => ?_)
          · refine j_iload_n C dX2_fewestFrom_70 rfl ?_
            refine j_top C (nI (us lb u)) (by unfold us; rw [if_neg cq61]) ?_
            refine j_istore C dX2_fewestFrom_71 (by decide) ?_
            refine j_aload_n C dX2_fewestFrom_73 rfl ?_
            refine j_aload_n C dX2_fewestFrom_74 rfl ?_
            refine j_iload_n C dX2_fewestFrom_75 rfl ?_
            refine j_iconst C dX2_fewestFrom_76 (v := nI 1) (by decide) ?_
            refine j_iaddN C dX2_fewestFrom_77 ?_
            refine j_iload C dX2_fewestFrom_78 rfl ?_
            refine j_iload C dX2_fewestFrom_80 rfl ?_
            refine j_callS C (ih (us lb u) f (uc c p lb) _ (hF.next hy hr (by omega) (by omega) hfk hfre)) dX2_fewestFrom_82 gX2_fewestFrom_X2_fewestFrom rfl ks_X2_fewestFrom rfl rfl (Nat.le_of_ble_eq_true rfl) (rmD_s (by decide)) ⟨Nat.zero_le _, Nat.zero_le _⟩ (k_EI fun r hq => ?_)
            refine j_istore C dX2_fewestFrom_85 (by decide) ?_
            refine j_aload_n C dX2_fewestFrom_87 rfl ?_
            refine j_iload C dX2_fewestFrom_88 rfl ?_
            refine j_dup2 C dX2_fewestFrom_90 rfl rfl ?_
            refine j_ialdN C dX2_fewestFrom_91 (show ilen 83 = some 8 from rfl) (by omega) (by decide) ?_
            refine j_top C (nI (bea c p lb ||| 2 ^ p)) (by rw [setR_eq, upd_eq]) ?_
            refine j_iconst C dX2_fewestFrom_92 (v := nI 1) (by decide) ?_
            refine j_iload_n C dX2_fewestFrom_93 rfl ?_
            refine j_ishl C dX2_fewestFrom_94 ?_
            refine j_top C (_) (nI_shl1 (by omega)) ?_
            refine j_iconst C dX2_fewestFrom_95 (v := -1) (by decide) ?_
            refine j_ixor C dX2_fewestFrom_96 ?_
            refine j_iand C dX2_fewestFrom_97 ?_
            refine j_top C (nI (bea c p lb)) (cl_bit hp hb9) ?_
            refine j_iastN C dX2_fewestFrom_98 (show ilen 83 = some 8 from rfl) (by omega) (by decide) ?_
            refine j_iincN C dX2_fewestFrom_99 rfl (by decide) ?_
            refine j_goto C dX2_fewestFrom_102 (tgt := 24) (by decide) ?_
            exact j_pick [0, 1, 2, 3, 4, 5, 6] (j_mem C (sR_back (f6 lb (by omega))) (ih24 (by omega) r (hL.yes hq)))
          · refine j_iload_n C dX2_fewestFrom_64 rfl ?_
            refine j_iconst C dX2_fewestFrom_65 (v := nI 1) (by decide) ?_
            refine j_iaddN C dX2_fewestFrom_66 ?_
            refine j_top C (nI (us lb u)) (by unfold us; rw [if_pos cq61]) ?_
            refine j_goto C dX2_fewestFrom_67 (tgt := 71) (by decide) ?_
            refine j_istore C dX2_fewestFrom_71 (by decide) ?_
            refine j_aload_n C dX2_fewestFrom_73 rfl ?_
            refine j_aload_n C dX2_fewestFrom_74 rfl ?_
            refine j_iload_n C dX2_fewestFrom_75 rfl ?_
            refine j_iconst C dX2_fewestFrom_76 (v := nI 1) (by decide) ?_
            refine j_iaddN C dX2_fewestFrom_77 ?_
            refine j_iload C dX2_fewestFrom_78 rfl ?_
            refine j_iload C dX2_fewestFrom_80 rfl ?_
            refine j_callS C (ih (us lb u) f (uc c p lb) _ (hF.next hy hr (by omega) (by omega) hfk hfre)) dX2_fewestFrom_82 gX2_fewestFrom_X2_fewestFrom rfl ks_X2_fewestFrom rfl rfl (Nat.le_of_ble_eq_true rfl) (rmD_s (by decide)) ⟨Nat.zero_le _, Nat.zero_le _⟩ (k_EI fun r hq => ?_)
            refine j_istore C dX2_fewestFrom_85 (by decide) ?_
            refine j_aload_n C dX2_fewestFrom_87 rfl ?_
            refine j_iload C dX2_fewestFrom_88 rfl ?_
            refine j_dup2 C dX2_fewestFrom_90 rfl rfl ?_
            refine j_ialdN C dX2_fewestFrom_91 (show ilen 83 = some 8 from rfl) (by omega) (by decide) ?_
            refine j_top C (nI (bea c p lb ||| 2 ^ p)) (by rw [setR_eq, upd_eq]) ?_
            refine j_iconst C dX2_fewestFrom_92 (v := nI 1) (by decide) ?_
            refine j_iload_n C dX2_fewestFrom_93 rfl ?_
            refine j_ishl C dX2_fewestFrom_94 ?_
            refine j_top C (_) (nI_shl1 (by omega)) ?_
            refine j_iconst C dX2_fewestFrom_95 (v := -1) (by decide) ?_
            refine j_ixor C dX2_fewestFrom_96 ?_
            refine j_iand C dX2_fewestFrom_97 ?_
            refine j_top C (nI (bea c p lb)) (cl_bit hp hb9) ?_
            refine j_iastN C dX2_fewestFrom_98 (show ilen 83 = some 8 from rfl) (by omega) (by decide) ?_
            refine j_iincN C dX2_fewestFrom_99 rfl (by decide) ?_
            refine j_goto C dX2_fewestFrom_102 (tgt := 24) (by decide) ?_
            exact j_pick [0, 1, 2, 3, 4, 5, 6] (j_mem C (sR_back (f6 lb (by omega))) (ih24 (by omega) r (hL.yes hq)))
    exact L24 0 (by omega) kn Li.z
  · refine j_iload C dX2_fewestFrom_6 rfl ?_
    exact j_ireturn C hret dX2_fewestFrom_8 ⟨kn, rfl, rfl, Fr3.stop (by omega)⟩

theorem ct_from {l : Launch} {G : GG} {R : Nat → Nat → Bool} (hy : ∀ i j, R i j = R j i) (hr : ∀ i, R i i = false) : ∀ (n p u kn : Nat) (c : Nat → Nat) (M : MM), p + n = 8 → Fp R M p u kn c → Ct l G yX2_fewestFrom wsX2_fewestFrom (n + 1) ([.ref (G.2.2 80), .ref (G.2.2 83), .int (nI p), .int (nI u), .int (nI kn)] : List Value) M (fun v9 M9 => ∃ r, v9 = some (.int (nI r)) ∧ M9 = M ∧ Fr3 R c p u kn r)
  | 0, p, u, kn, c, M, h, hF => by
    have e : p = 8 := h
    subst e; exact ct_from8 hF
  | n + 1, p, u, kn, c, M, h, hF => ct_fromS hy hr (by omega) hF (fun u kn c M hF => ct_from hy hr n (p + 1) u kn c M (by omega) hF)

theorem tr_is {R : Nat → Nat → Bool} {c : Nat → Nat} {r k : Nat} (hr : ∀ i, R i i = false) (hk : Chi R (fun _ => true) k) (h : Fr3 R c 0 0 8 r) : r = k := by
  refine Chi.uniq ⟨?_, fun m hm => ?_⟩ hk
  · rcases h.2.1 with q | ⟨-, c2, -, h2, h3⟩
    · rw [q]; exact Cob.full hr
    · exact ⟨c2, fun i hi _ => h2 i hi, fun i j hi hj _ _ e => h3 i j hi hj e⟩
  · obtain ⟨c2, h2, h3⟩ := hm
    exact h.2.2 m (Nat.zero_le m) ⟨c2, fun q hq => absurd hq (Nat.not_lt_zero q), fun i hi => h2 i hi rfl, fun i j hi hj e => h3 i j hi hj rfl rfl e⟩

set_option maxHeartbeats 4000000 in
set_option maxRecDepth 100000 in
theorem ct_fewestByTrying {l : Launch} {G : GG} {M : MM} {R : Nat → Nat → Bool} (hy : ∀ i j, R i j = R j i) (hr : ∀ i, R i i = false) {k : Nat} (hk : Chi R (fun _ => true) k) (hrv : ∀ i, i < 8 → M.1 80 i = nI (mkm (R i) 8)) (hbe : ∀ i, i < 8 → M.1 83 i = nI 0) : Ct l G yX2_fewestByTrying wsX2_fewestByTrying 10 ([.ref (G.2.2 79)] : List Value) M (rI (nI k) M) := by
  refine Ct.of (cc := cX2_fewestByTrying) (maxL := 1) (ret := (some .int)) (lv := [(0, .ref (G.2.2 79))]) (by decide) rfl rfl (Nat.le_of_ble_eq_true rfl) ?_
  intro pg ev sg mm bl mt cd AZ C hret
  refine j_aload_n C dX2_fewestByTrying_0 rfl ?_
  refine j_getf C dX2_fewestByTrying_1 rfl (by decide) (T := TX2) rfl in_X2_fewestByTrying_X2 (k := 0) (by decide) fl_X2_fewestByTrying_9 rfl rfl ?_
  refine j_aload_n C dX2_fewestByTrying_4 rfl ?_
  refine j_getf C dX2_fewestByTrying_5 rfl (by decide) (T := TX2) rfl in_X2_fewestByTrying_X2 (k := 3) (by decide) fl_X2_fewestByTrying_22 rfl rfl ?_
  refine j_iconst C dX2_fewestByTrying_8 (v := nI 0) (by decide) ?_
  refine j_iconst C dX2_fewestByTrying_9 (v := nI 0) (by decide) ?_
  refine j_bipush C dX2_fewestByTrying_10 (v := nI 8) (by decide) ?_
  refine j_callS C (ct_from hy hr 8 0 0 8 (fun _ => 0) M rfl ⟨Nat.le_refl 0, Nat.le_refl 8, fun q hq => absurd hq (Nat.not_lt_zero q), fun a b ha => absurd ha (Nat.not_lt_zero a), hrv, hbe⟩) dX2_fewestByTrying_12 gX2_fewestByTrying_X2_fewestFrom rfl ks_X2_fewestFrom rfl rfl (Nat.le_of_ble_eq_true rfl) ⟨by decide, by decide⟩ ⟨Nat.zero_le _, Nat.zero_le _⟩ (k_EI fun r hq => ?_)
  exact j_ireturn C hret dX2_fewestByTrying_15 ⟨by rw [tr_is hr hk hq], rfl⟩

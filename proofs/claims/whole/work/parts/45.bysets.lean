set_option maxRecDepth 20000 in
theorem in_X6_bySets_X6 : ∀ w ∈ wsX60, w ∈ wsX6_bySets := by decide +kernel
set_option maxRecDepth 20000 in
theorem fl_X6_bySets_21 : Cond.fieldLink RX6 21 "PotLabelsModel" "needs" "[I" ∈ wsX6_bySets := by decide +kernel
set_option maxRecDepth 20000 in
theorem kd_X6_isPlain : yX6_isPlain.cls = RX6 ∧ yX6_isPlain.cls ≠ "java/lang/invoke/MethodHandle" ∧ yX6_isPlain.cls ≠ "java/lang/invoke/VarHandle" ∧ (parseMethodDescriptor yX6_isPlain.desc).map (fun d => d.parameters.length) = some 2 := by decide +kernel
/-! the model's sets: the lowest pot, and the parts of a set counted down -/
theorem nx_part : ∀ (n a u s : Nat), a < 2 ^ n → a &&& s = a → u &&& s = u → u < a → u ≤ (a - 1) &&& s
  | 0, a, u, s, h, _, _, h3 => absurd h3 (by have h2 : a < 1 := h; omega)
  | n + 1, a, u, s, h, h1, h2, h3 => by
    have a1 : a / 2 &&& s / 2 = a / 2 := by rw [← Nat.and_div_two, h1]
    have u1 : u / 2 &&& s / 2 = u / 2 := by rw [← Nat.and_div_two, h2]
    have u2 : u % 2 &&& s % 2 = u % 2 := by have q := Nat.and_mod_two_pow (a := u) (b := s) (n := 1); rw [h2] at q; exact q.symm
    have d1 : ((a - 1) &&& s) / 2 = (a - 1) / 2 &&& s / 2 := Nat.and_div_two
    have d2 : ((a - 1) &&& s) % 2 = (a - 1) % 2 &&& s % 2 := Nat.and_mod_two_pow (n := 1)
    have hp : 2 ^ (n + 1) = 2 * 2 ^ n := by rw [Nat.pow_succ, Nat.mul_comm]
    rcases Nat.mod_two_eq_zero_or_one a with e | e
    · rw [show (a - 1) / 2 = a / 2 - 1 by omega] at d1
      rw [show (a - 1) % 2 = 1 by omega] at d2
      have ih := nx_part n (a / 2) (u / 2) (s / 2) (by omega) a1 u1 (by omega)
      have hu : u % 2 ≤ s % 2 := by rw [← u2]; exact Nat.and_le_right
      have hs : 1 &&& s % 2 = s % 2 := by
        rcases Nat.mod_two_eq_zero_or_one s with q | q
        · rw [q]; rfl
        · rw [q]; rfl
      rw [hs] at d2
      omega
    · rw [show (a - 1) / 2 = a / 2 by omega, a1] at d1
      rw [show (a - 1) % 2 = 0 by omega, Nat.zero_and] at d2
      omega
def lo (s : Nat) : Nat := low (255 ^^^ s)
theorem lo_ok {s : Nat} (h0 : 0 < s) (h : s < 256) : lo s < 8 ∧ bit s (lo s) = true ∧ nI s &&& -(nI s) = nI (2 ^ lo s) := by
  have q : ∀ s, s < 256 → 0 < s → lo s < 8 ∧ bit s (lo s) = true ∧ nI s &&& -(nI s) = nI (2 ^ lo s) := by decide +kernel
  exact q s h h0
theorem lo_an {s a : Nat} (h0 : 0 < s) (h : s < 256) (ha : a < 2 ^ 31) : nI a &&& nI s &&& -(nI s) = nI (a &&& 2 ^ lo s) := by
  rw [Int32.and_assoc, (lo_ok h0 h).2.2, nI_and ha (Nat.pow_lt_pow_right (by decide) (by have := (lo_ok h0 h).1; omega))]
theorem bit_p0 {a v : Nat} : a &&& 2 ^ v = 0 ↔ bit a v = false := by
  constructor
  · intro h
    have h2 : bit (a &&& 2 ^ v) v = bit 0 v := congrArg (fun z => bit z v) h
    rw [bit_an, bit_one, decide_eq_true rfl, Bool.and_true, bit_0] at h2; exact h2
  · intro h
    apply Nat.eq_of_testBit_eq
    intro i
    rw [← bit_tb, ← bit_tb, bit_an, bit_one, bit_0]
    by_cases e : v = i
    · subst e; rw [h]; rfl
    · rw [decide_eq_false e, Bool.and_false]
theorem not8 {a : Nat} (h : a < 256) : nI 255 &&& (nI a ^^^ -1) = nI (255 ^^^ a) := by
  have q : ∀ a, a < 256 → nI 255 &&& (nI a ^^^ -1) = nI (255 ^^^ a) := by decide +kernel
  exact q a h
theorem wo_part {s a : Nat} (hs : s < 256) (ha : a &&& s = a) : nI s &&& (nI a ^^^ -1) = nI (s ^^^ a) := by
  have ha2 : a < 256 := Nat.lt_of_le_of_lt (sub_le ha) hs
  have e1 : nI s = nI s &&& nI 255 := by
    rw [nI_and (by omega) (by decide)]
    refine congrArg nI (bit_ext hs (Nat.lt_of_le_of_lt Nat.and_le_left hs) fun i hi => ?_)
    rw [bit_an, b255 i hi, Bool.and_true]
  rw [e1, Int32.and_assoc, not8 ha2, nI_and (by omega) (Nat.lt_of_lt_of_le (Nat.xor_lt_two_pow (n := 8) (by decide) ha2) (by decide))]
  refine congrArg nI (bit_ext (Nat.lt_of_le_of_lt Nat.and_le_left hs) (Nat.xor_lt_two_pow (n := 8) hs ha2) fun i hi => ?_)
  rw [bit_an, bit_xo, bit_xo, b255 i hi]
  have hb := sub_bit ha i
  cases p : bit a i <;> cases q : bit s i <;> first | rfl | exact absurd (hb p) (by rw [q]; decide)
theorem wo_lt {s a : Nat} (hs : s < 256) (ha : a &&& s = a) (h0 : 0 < a) : s ^^^ a < s := by
  have ha2 : a < 256 := Nat.lt_of_le_of_lt (sub_le ha) hs
  have h1 : (s ^^^ a) &&& s = s ^^^ a := by
    refine sub_of (fun i hi h => ?_) (Nat.xor_lt_two_pow (n := 8) hs ha2) hs
    rw [bit_xo] at h
    have hb := sub_bit ha i
    cases q : bit s i with
    | true => rfl
    | false =>
      cases p : bit a i with
      | true => exact absurd (hb p) (by rw [q]; decide)
      | false => rw [p, q] at h; exact absurd h (by decide)
  rcases Nat.lt_or_eq_of_le (sub_le h1) with q | q
  · exact q
  · exfalso
    have : a = 0 := bit_ext ha2 (by decide) fun i hi => by
      have h3 : bit (s ^^^ a) i = bit s i := congrArg (fun z => bit z i) q
      rw [bit_xo] at h3
      rw [bit_0]
      cases p : bit a i with
      | false => rfl
      | true => rw [p] at h3; cases r : bit s i <;> rw [r] at h3 <;> exact absurd h3 (by decide)
    omega
section IV
variable {R : Nat → Nat → Bool} {s v acc a k x : Nat} {nd : Nat → Nat}
theorem cob1 {P : Nat → Bool} (h : Cob R P 1) : Pce R P := by
  obtain ⟨c, c1, c2⟩ := h
  exact fun i j hi hj p q => c2 i j hi hj p q (by have := c1 i hi p; have := c1 j hj q; omega)
theorem chi1 {P : Nat → Bool} (hv : v < 8) (hp : P v = true) (h : Pce R P) (hk : Chi R P k) : k = 1 := by
  have h1 : k ≤ 1 := hk.2 1 ⟨fun _ => 0, fun _ _ _ => Nat.zero_lt_one, fun i j hi hj p q _ => h i j hi hj p q⟩
  obtain ⟨c, c1, -⟩ := hk.1
  have := c1 v hv hp
  omega
/-- the parts of s above a have been taken out -/
def Iv (R : Nat → Nat → Bool) (nd : Nat → Nat) (s acc a : Nat) : Prop := Cob R (bit s) acc ∧ acc ≤ 8 ∧ (Pce R (bit s) → acc = 1) ∧ ∀ u, a < u → u &&& s = u → Pce R (bit u) → bit u (lo s) = true → acc ≤ nd (s ^^^ u) + 1
def ini (R : Nat → Nat → Bool) (m : Nat) : Nat := if m = 0 then 0 else bif pcB R m then 1 else 8
def pln (s a x : Nat) : Bool := decide (x = 1) && bit a (lo s)
theorem Iv.z (hr : ∀ i, R i i = false) (h0 : 0 < s) : Iv R nd s (ini R s) s := by
  unfold ini; rw [if_neg (by omega)]
  refine ⟨?_, by cases pcB R s <;> decide, fun h => by rw [pcB_iff.mpr h]; rfl, fun u hu h => absurd (sub_le h) (by omega)⟩
  cases e : pcB R s with
  | false => exact Cob.full hr
  | true => exact ⟨fun _ => 0, fun _ _ _ => Nat.zero_lt_one, fun i j hi hj p q _ => pcB_iff.mp e i j hi hj p q⟩
theorem Iv.nx (h : Iv R nd s acc a) (ha8 : a < 256) (ha : a &&& s = a) (hx : Pce R (bit a) → bit a (lo s) = true → acc ≤ nd (s ^^^ a) + 1) : Iv R nd s acc ((a - 1) &&& s) := by
  refine ⟨h.1, h.2.1, h.2.2.1, fun u hu hs hp hb => ?_⟩
  rcases Nat.lt_trichotomy u a with q | q | q
  · exact absurd (nx_part 8 a u s ha8 ha hs q) (by omega)
  · subst q; exact hx hp hb
  · exact h.2.2.2 u q hs hp hb
theorem Iv.no (hnd : ∀ m, Chi R (bit m) (nd m)) (h : Iv R nd s acc a) (h0 : 0 < s) (hs : s < 256) (ha : a &&& s = a) (hx : x = if a = s then acc else nd a) (hp : pln s a x = false) : Iv R nd s acc ((a - 1) &&& s) := by
  refine h.nx (Nat.lt_of_le_of_lt (sub_le ha) hs) ha fun p b => ?_
  exfalso
  have e : x = 1 := by
    by_cases q : a = s
    · rw [hx, if_pos q]; subst q; exact h.2.2.1 p
    · rw [hx, if_neg q]; exact chi1 (lo_ok h0 hs).1 b p (hnd a)
  unfold pln at hp
  rw [b, decide_eq_true e] at hp; exact absurd hp (by decide)
theorem Iv.ge (h : Iv R nd s acc a) (hs : s < 256) (ha : a &&& s = a) (hp : acc ≤ nd (s ^^^ a) + 1) : Iv R nd s acc ((a - 1) &&& s) := h.nx (Nat.lt_of_le_of_lt (sub_le ha) hs) ha fun _ _ => hp
theorem Iv.lt (hnd : ∀ m, Chi R (bit m) (nd m)) (h : Iv R nd s acc a) (hs : s < 256) (ha : a &&& s = a) (hx : x = if a = s then acc else nd a) (hp : pln s a x = true) (hlt : nd (s ^^^ a) + 1 < acc) : Iv R nd s (nd (s ^^^ a) + 1) ((a - 1) &&& s) := by
  have ha8 := Nat.lt_of_le_of_lt (sub_le ha) hs
  unfold pln at hp
  rw [Bool.and_eq_true] at hp
  have e := of_decide_eq_true hp.1
  have hP : Pce R (bit a) := by
    by_cases q : a = s
    · rw [hx, if_pos q] at e; subst q; rw [e] at h; exact cob1 h.1
    · rw [hx, if_neg q] at e; exact cob1 (e ▸ (hnd a).1)
  have hb := sub_bit ha
  have hA : Cob R (bit s) (nd (s ^^^ a) + 1) := Cob.ach hP ((hnd (s ^^^ a)).1.mono (Nat.le_refl _) fun i hi g => by
    have g2 : (bit s i && !bit a i) = true := g
    rw [bit_xo]
    cases p : bit s i <;> cases q : bit a i <;> rw [p, q] at g2 <;> first | rfl | exact absurd g2 (by decide))
  have h2 : Iv R nd s (nd (s ^^^ a) + 1) a := ⟨hA, by have := h.2.1; omega, fun p => by have := h.2.2.1 p; omega, fun u hu h1 h2 h3 => by have := h.2.2.2 u hu h1 h2 h3; omega⟩
  exact h2.nx ha8 ha fun _ _ => Nat.le_refl _
theorem Iv.fin (hnd : ∀ m, Chi R (bit m) (nd m)) (h : Iv R nd s acc 0) (h0 : 0 < s) (hs : s < 256) : acc = nd s := by
  refine Chi.uniq ⟨h.1, fun m hm => ?_⟩ (hnd s)
  obtain ⟨hv, hb, -⟩ := lo_ok h0 hs
  obtain ⟨T, t1, t2, t3, t4, t5⟩ := hm.opt hv hb
  have hT : ∀ i, i < 8 → bit (mkm T 8) i = T i := fun i hi => mkm_bit T 8 i hi
  have hsub : mkm T 8 &&& s = mkm T 8 := sub_of (fun i hi q => t2 i hi ((hT i hi).symm.trans q)) (mkm_lt T 8) hs
  have hbt : bit (mkm T 8) (lo s) = true := (hT _ hv).trans t1
  have hpos : 0 < mkm T 8 := by
    rcases Nat.eq_zero_or_pos (mkm T 8) with q | q
    · rw [q, bit_0] at hbt; cases hbt
    · exact q
  have h1 := h.2.2.2 (mkm T 8) hpos hsub (fun i j hi hj p q => t3 i j hi hj ((hT i hi).symm.trans p) ((hT j hj).symm.trans q)) hbt
  have h2 := (hnd (s ^^^ mkm T 8)).2 _ (t5.mono (Nat.le_refl _) fun i hi g => by
    show (bit s i && !T i) = true
    rw [bit_xo, hT i hi] at g
    have := t2 i hi
    cases p : bit s i <;> cases q : T i <;> rw [p, q] at g <;> first | rfl | exact absurd g (by decide) | exact absurd (this q) (by rw [p]; decide))
  omega
end IV

theorem Sm.off88 {M M2 : MM} {t : Nat} {σ : Sg} (h : Sm M t σ) (ho : Off M M2 (fun a => a = 88)) : Sm M2 t σ := fun k hk => by rw [(ho.1 85 (by decide)).1]; exact h k hk
section RO
variable {R : Nat → Nat → Bool} {s v acc a x m : Nat} {nd : Nat → Nat} {M3 : MM}
theorem in_1 : nI (if m = 0 then 0 else 8) = nI (if m < 1 then ini R m else 8) := by
  unfold ini
  by_cases e : m = 0
  · rw [if_pos e, if_pos (by omega), if_pos e]
  · rw [if_neg e, if_neg (by omega)]
theorem in_f (h : pcB R s = false) (h0 : 0 < s) : nI (if m < s then ini R m else 8) = nI (if m < s + 1 then ini R m else 8) := by
  by_cases e : m = s
  · subst e; rw [if_neg (Nat.lt_irrefl _), if_pos (Nat.lt_succ_self _)]; unfold ini; rw [if_neg (by omega), h]; rfl
  · by_cases q : m < s
    · rw [if_pos q, if_pos (by omega)]
    · rw [if_neg q, if_neg (by omega)]
theorem in_t (hm : ∀ m, m < 256 → M3.1 88 m = nI (if m < s then ini R m else 8)) (h : pcB R s = true) (h0 : 0 < s) : ∀ m, m < 256 → (setR M3 88 s (nI 1)).1 88 m = nI (if m < s + 1 then ini R m else 8) := fun m hm2 => by
  rw [setR_eq]
  by_cases e : m = s
  · subst e; rw [upd_eq, if_pos (Nat.lt_succ_self _)]; unfold ini; rw [if_neg (by omega), h]; rfl
  · rw [upd_ne e, hm m hm2]
    by_cases q : m < s
    · rw [if_pos q, if_pos (by omega)]
    · rw [if_neg q, if_neg (by omega)]
theorem nd_1 (h : nd 0 = 0) : nI (ini R m) = nI (if m < 1 then nd m else ini R m) := by
  by_cases e : m < 1
  · rw [if_pos e, show m = 0 by omega, h]; rfl
  · rw [if_neg e]
theorem nd_s : nI (if m = s then nd s else if m < s then nd m else ini R m) = nI (if m < s + 1 then nd m else ini R m) := by
  by_cases e : m = s
  · subst e; rw [if_pos rfl, if_pos (Nat.lt_succ_self _)]
  · rw [if_neg e]
    by_cases q : m < s
    · rw [if_pos q, if_pos (by omega)]
    · rw [if_neg q, if_neg (by omega)]
theorem ro_1 : nI (if m < s then nd m else ini R m) = nI (if m = s then ini R s else if m < s then nd m else ini R m) := by
  by_cases e : m = s
  · subst e; rw [if_pos rfl, if_neg (Nat.lt_irrefl _)]
  · rw [if_neg e]
theorem ro_x (h : a ≤ s) : nI (if a = s then acc else if a < s then nd a else ini R a) = nI (if a = s then acc else nd a) := by
  by_cases e : a = s
  · rw [if_pos e, if_pos e]
  · rw [if_neg e, if_neg e, if_pos (by omega)]
theorem ro_s (hm : ∀ m, m < 256 → M3.1 88 m = nI (if m = s then acc else if m < s then nd m else ini R m)) (x : Nat) : ∀ m, m < 256 → (setR M3 88 s (nI x)).1 88 m = nI (if m = s then x else if m < s then nd m else ini R m) := fun m hm2 => by
  rw [setR_eq]
  by_cases e : m = s
  · subst e; rw [upd_eq, if_pos rfl]
  · rw [upd_ne e, hm m hm2, if_neg e, if_neg e]
theorem pln_t (h : x = 1) (h2 : ¬ a &&& 2 ^ lo s = 0) : nI 1 = bI (pln s a x) := by
  unfold pln
  rw [decide_eq_true h]
  cases e : bit a (lo s) with
  | true => rfl
  | false => exact absurd (bit_p0.mpr e) h2
theorem pln_f1 (h : ¬ x = 1) : nI 0 = bI (pln s a x) := by unfold pln; rw [decide_eq_false h]; rfl
theorem pln_f2 (h : a &&& 2 ^ lo s = 0) : nI 0 = bI (pln s a x) := by unfold pln; rw [bit_p0.mp h, Bool.and_false]; rfl
end RO

set_option maxHeartbeats 4000000 in
set_option maxRecDepth 100000 in
theorem cm_bySets {l : Launch} {G : GG} {M : MM} {σ : Sg} (hS : Sm M 0 σ) (hW : Wf σ) {p : Nat} (hp : p < 4) {nd : Nat → Nat} (hnd : ∀ m, Chi (ap σ p) (bit m) (nd m)) : Ct l G yX6_bySets wsX6_bySets 7 ([.ref (G.2.2 84), .int (nI p)] : List Value) M (fun v9 M9 => v9 = some (.int (nI (nd 255))) ∧ Off M M9 (fun a => a = 88)) := by
  have hr := ap_self σ p
  have nd0 : nd 0 = 0 := Nat.le_zero.mp ((hnd 0).2 0 ⟨fun _ => 0, fun i hi h => (by rw [bit_0] at h; cases h), fun i j hi hj h => (by rw [bit_0] at h; cases h)⟩)
  refine Ct.of (cc := cX6_bySets) (maxL := 6) (ret := (some .int)) (lv := [(0, .ref (G.2.2 84)), (1, .int (nI p))]) (by decide) rfl rfl (Nat.le_of_ble_eq_true rfl) ?_
  intro pg ev sg mm bl mt cd AZ C hret
  refine j_aload_n C dX6_bySets_0 rfl ?_
  refine j_getf C dX6_bySets_1 rfl (by decide) (T := TX6) rfl in_X6_bySets_X6 (k := 6) (by decide) fl_X6_bySets_21 rfl rfl ?_
  refine j_iconst C dX6_bySets_4 (v := nI 0) (by decide) ?_
  refine j_iconst C dX6_bySets_5 (v := nI 0) (by decide) ?_
  refine j_iastN C dX6_bySets_6 (show ilen 88 = some 256 from rfl) (by omega) (by decide) ?_
  refine j_iconst C dX6_bySets_7 (v := nI 1) (by decide) ?_
  refine j_istore_n C dX6_bySets_8 (by decide) ?_
  have L9 : ∀ s, s ≤ 256 → 0 < s → ∀ M2 : MM, (∀ m, m < s → M2.1 88 m = nI (if m = 0 then 0 else 8)) → Off M M2 (fun a => a = 88) → J G pg l ev (rmD 7) sg mm ([.ref (G.2.2 84), .int (nI p)] : List Value).toArray bl mt cd AZ 6 (MQ bl (QQ G (fun v9 M9 => v9 = some (.int (nI (nd 255))) ∧ Off M M9 (fun a => a = 88)) AZ) ([.ref (G.2.2 84), .int (nI p)] : List Value).toArray sg 0 0 AZ) 0 0 9 [(0, .ref (G.2.2 84)), (1, .int (nI p)), (2, .int (nI s))] [] (M2) := by
    refine dnto ?_
    intro s hs9 ih9 h0 M2 hm2 ho2
    refine j_iload_n C dX6_bySets_9 rfl ?_
    refine j_sipush C dX6_bySets_10 (v := nI 256) (by decide) ?_
    refine j_icmp_geN C dX6_bySets_13 (tgt := 30) (by decide) (by omega) (by omega) (fun cq13 => ?_) (fun cq13 => ?_)
    · refine j_iconst C dX6_bySets_30 (v := nI 1) (by decide) ?_
      refine j_istore_n C dX6_bySets_31 (by decide) ?_
      have L32 : ∀ s2, s2 ≤ 256 → 0 < s2 → ∀ M3 : MM, (∀ m, m < 256 → M3.1 88 m = nI (if m < s2 then ini (ap σ p) m else 8)) → Off M M3 (fun a => a = 88) → J G pg l ev (rmD 7) sg mm ([.ref (G.2.2 84), .int (nI p)] : List Value).toArray bl mt cd AZ 6 (MQ bl (QQ G (fun v9 M9 => v9 = some (.int (nI (nd 255))) ∧ Off M M9 (fun a => a = 88)) AZ) ([.ref (G.2.2 84), .int (nI p)] : List Value).toArray sg 0 0 AZ) 0 0 32 [(0, .ref (G.2.2 84)), (1, .int (nI p)), (2, .int (nI s2))] [] (M3) := by
        refine dnto ?_
        intro s2 hs32 ih32 h02 M3 hm3 ho3
        have hS3 : Sm M3 0 σ := hS.off88 ho3
        refine j_iload_n C dX6_bySets_32 rfl ?_
        refine j_sipush C dX6_bySets_33 (v := nI 256) (by decide) ?_
        refine j_icmp_geN C dX6_bySets_36 (tgt := 61) (by decide) (by omega) (by omega) (fun cq36 => ?_) (fun cq36 => ?_)
        · refine j_iconst C dX6_bySets_61 (v := nI 1) (by decide) ?_
          refine j_istore_n C dX6_bySets_62 (by decide) ?_
          have L63 : ∀ s, s ≤ 256 → 0 < s → ∀ M4 : MM, (∀ m, m < 256 → M4.1 88 m = nI (if m < s then nd m else ini (ap σ p) m)) → Off M M4 (fun a => a = 88) → J G pg l ev (rmD 7) sg mm ([.ref (G.2.2 84), .int (nI p)] : List Value).toArray bl mt cd AZ 6 (MQ bl (QQ G (fun v9 M9 => v9 = some (.int (nI (nd 255))) ∧ Off M M9 (fun a => a = 88)) AZ) ([.ref (G.2.2 84), .int (nI p)] : List Value).toArray sg 0 0 AZ) 0 0 63 [(0, .ref (G.2.2 84)), (1, .int (nI p)), (2, .int (nI s))] [] (M4) := by
            refine dnto ?_
            intro s hs63 ih63 h03 M4 hm4 ho4
            refine j_iload_n C dX6_bySets_63 rfl ?_
            refine j_sipush C dX6_bySets_64 (v := nI 256) (by decide) ?_
            refine j_icmp_geN C dX6_bySets_67 (tgt := 164) (by decide) (by omega) (by omega) (fun cq67 => ?_) (fun cq67 => ?_)
            · have e7 : s = 256 := by omega
              subst e7
              refine j_aload_n C dX6_bySets_164 rfl ?_
              refine j_getf C dX6_bySets_165 rfl (by decide) (T := TX6) rfl in_X6_bySets_X6 (k := 6) (by decide) fl_X6_bySets_21 rfl rfl ?_
              refine j_sipush C dX6_bySets_168 (v := nI 255) (by decide) ?_
              refine j_ialdN C dX6_bySets_171 (show ilen 88 = some 256 from rfl) (by omega) (by decide) ?_
              refine j_top C (nI (nd 255)) (by rw [hm4 255 (by decide), if_pos (by decide)]) ?_
              exact j_ireturn C hret dX6_bySets_172 ⟨rfl, ho4⟩
            · refine j_iload_n C dX6_bySets_70 rfl ?_
              refine j_istore_n C dX6_bySets_71 (by decide) ?_
              have L72 : ∀ t, t ≤ 256 → ∀ a, a + t ≤ 256 → a &&& s = a → ∀ acc M5, Iv (ap σ p) nd s acc a → (∀ m, m < 256 → M5.1 88 m = nI (if m = s then acc else if m < s then nd m else ini (ap σ p) m)) → Off M M5 (fun a => a = 88) → J G pg l ev (rmD 7) sg mm ([.ref (G.2.2 84), .int (nI p)] : List Value).toArray bl mt cd AZ 6 (MQ bl (QQ G (fun v9 M9 => v9 = some (.int (nI (nd 255))) ∧ Off M M9 (fun a => a = 88)) AZ) ([.ref (G.2.2 84), .int (nI p)] : List Value).toArray sg 0 0 AZ) 0 0 72 [(0, .ref (G.2.2 84)), (1, .int (nI p)), (2, .int (nI s)), (3, .int (nI a))] [] (M5) := by
                refine dnto ?_
                intro t ht72 ih72 a hat ha acc M5 hI hm5 ho5
                have hal := sub_le ha
                have hI8 := hI.2.1
                refine j_iload_n C dX6_bySets_72 rfl ?_
                refine j_if_leN C dX6_bySets_73 (tgt := 158) (by decide) (by omega) (fun cq73 => ?_) (fun cq73 => ?_)
                · have e8 : a = 0 := by omega
                  subst e8
                  have e9 := hI.fin hnd h03 (by omega)
                  refine j_iincN C dX6_bySets_158 rfl (by decide) ?_
                  refine j_goto C dX6_bySets_161 (tgt := 63) (by decide) ?_
                  exact j_pick [0, 1, 2] (ih63 (by omega) (by omega) M5 (fun m hm => by rw [hm5 m hm, e9]; exact nd_s) ho5)
                · have h0a : 0 < a := by omega
                  have hnx : (a - 1) &&& s ≤ a - 1 := Nat.and_le_left
                  have nx2 : (a - 1) &&& s &&& s = (a - 1) &&& s := by rw [Nat.and_assoc, Nat.and_self]
                  have hwl := wo_lt (by omega) ha h0a
                  have hn8 := (hnd (s ^^^ a)).le8 hr
                  obtain ⟨x, hxx⟩ : ∃ x, x = if a = s then acc else nd a := ⟨_, rfl⟩
                  have hx8 : x ≤ 8 := by rw [hxx]; have := (hnd a).le8 hr; by_cases q : a = s <;> simp only [q, if_true, if_false] <;> omega
                  refine j_aload_n C dX6_bySets_76 rfl ?_
                  refine j_getf C dX6_bySets_77 rfl (by decide) (T := TX6) rfl in_X6_bySets_X6 (k := 6) (by decide) fl_X6_bySets_21 rfl rfl ?_
                  refine j_iload_n C dX6_bySets_80 rfl ?_
                  refine j_ialdN C dX6_bySets_81 (show ilen 88 = some 256 from rfl) (by omega) (by decide) ?_
                  refine j_top C (nI x) (by rw [hm5 a (by omega), hxx]; exact ro_x hal) ?_
                  refine j_iconst C dX6_bySets_82 (v := nI 1) (by decide) ?_
                  refine j_icmp_neN C dX6_bySets_83 (tgt := 99) (by decide) (by omega) (by omega) (fun cq83 => ?_) (fun cq83 => ?_)
                  · refine j_iconst C dX6_bySets_99 (v := nI 0) (by decide) ?_
                    refine j_top C (bI (pln s a x)) (by first | exact pln_f1 cq83 | exact pln_f2 cq92) ?_
                    refine j_istore C dX6_bySets_100 (by decide) ?_
                    refine j_aload_n C dX6_bySets_102 rfl ?_
                    refine j_getf C dX6_bySets_103 rfl (by decide) (T := TX6) rfl in_X6_bySets_X6 (k := 6) (by decide) fl_X6_bySets_21 rfl rfl ?_
                    refine j_iload_n C dX6_bySets_106 rfl ?_
                    refine j_iload_n C dX6_bySets_107 rfl ?_
                    refine j_iconst C dX6_bySets_108 (v := -1) (by decide) ?_
                    refine j_ixor C dX6_bySets_109 ?_
                    refine j_iand C dX6_bySets_110 ?_
                    refine j_top C (_) (wo_part (by omega) ha) ?_
                    refine j_ialdN C dX6_bySets_111 (show ilen 88 = some 256 from rfl) (by omega) (by decide) ?_
                    refine j_top C (nI (nd (s ^^^ a))) (by rw [hm5 _ (by omega), if_neg (by omega), if_pos hwl]) ?_
                    refine j_iconst C dX6_bySets_112 (v := nI 1) (by decide) ?_
                    refine j_iaddN C dX6_bySets_113 ?_
                    refine j_istore C dX6_bySets_114 (by decide) ?_
                    refine j_aload_n C dX6_bySets_116 rfl ?_
                    refine j_getf C dX6_bySets_117 rfl (by decide) (T := TX6) rfl in_X6_bySets_X6 (k := 6) (by decide) fl_X6_bySets_21 rfl rfl ?_
                    refine j_iload_n C dX6_bySets_120 rfl ?_
                    refine j_iload C dX6_bySets_121 rfl ?_
                    refine j_if_eqB C dX6_bySets_123 (tgt := 142) (by decide) (fun cq123 => ?_) (fun cq123 => ?_)
                    · refine j_aload_n C dX6_bySets_142 rfl ?_
                      refine j_getf C dX6_bySets_143 rfl (by decide) (T := TX6) rfl in_X6_bySets_X6 (k := 6) (by decide) fl_X6_bySets_21 rfl rfl ?_
                      refine j_iload_n C dX6_bySets_146 rfl ?_
                      refine j_ialdN C dX6_bySets_147 (show ilen 88 = some 256 from rfl) (by omega) (by decide) ?_
                      refine j_top C (nI acc) (by rw [hm5 s (by omega), if_pos rfl]) ?_
                      refine j_iastN C dX6_bySets_148 (show ilen 88 = some 256 from rfl) (by omega) (by decide) ?_
                      refine j_iload_n C dX6_bySets_149 rfl ?_
                      refine j_iconst C dX6_bySets_150 (v := nI 1) (by decide) ?_
                      refine j_isubN C dX6_bySets_151 (by omega) ?_
                      refine j_iload_n C dX6_bySets_152 rfl ?_
                      refine j_iand C dX6_bySets_153 ?_
                      refine j_top C (_) (nI_and (by omega) (by omega)) ?_
                      refine j_istore_n C dX6_bySets_154 (by decide) ?_
                      refine j_goto C dX6_bySets_155 (tgt := 72) (by decide) ?_
                      exact j_pick [0, 1, 2, 3] (ih72 (by omega) _ (by omega) nx2 acc _ (hI.no hnd h03 (by omega) ha hxx cq123) (ro_s hm5 acc) (ho5.tr (Off.R rfl)))
                    · refine j_iload C dX6_bySets_126 rfl ?_
                      refine j_aload_n C dX6_bySets_128 rfl ?_
                      refine j_getf C dX6_bySets_129 rfl (by decide) (T := TX6) rfl in_X6_bySets_X6 (k := 6) (by decide) fl_X6_bySets_21 rfl rfl ?_
                      refine j_iload_n C dX6_bySets_132 rfl ?_
                      refine j_ialdN C dX6_bySets_133 (show ilen 88 = some 256 from rfl) (by omega) (by decide) ?_
                      refine j_top C (nI acc) (by rw [hm5 s (by omega), if_pos rfl]) ?_
                      refine j_icmp_geN C dX6_bySets_134 (tgt := 142) (by decide) (by omega) (by omega) (fun cq134 => ?_) (fun cq134 => ?_)
                      · refine j_aload_n C dX6_bySets_142 rfl ?_
                        refine j_getf C dX6_bySets_143 rfl (by decide) (T := TX6) rfl in_X6_bySets_X6 (k := 6) (by decide) fl_X6_bySets_21 rfl rfl ?_
                        refine j_iload_n C dX6_bySets_146 rfl ?_
                        refine j_ialdN C dX6_bySets_147 (show ilen 88 = some 256 from rfl) (by omega) (by decide) ?_
                        refine j_top C (nI acc) (by rw [hm5 s (by omega), if_pos rfl]) ?_
                        refine j_iastN C dX6_bySets_148 (show ilen 88 = some 256 from rfl) (by omega) (by decide) ?_
                        refine j_iload_n C dX6_bySets_149 rfl ?_
                        refine j_iconst C dX6_bySets_150 (v := nI 1) (by decide) ?_
                        refine j_isubN C dX6_bySets_151 (by omega) ?_
                        refine j_iload_n C dX6_bySets_152 rfl ?_
                        refine j_iand C dX6_bySets_153 ?_
                        refine j_top C (_) (nI_and (by omega) (by omega)) ?_
                        refine j_istore_n C dX6_bySets_154 (by decide) ?_
                        refine j_goto C dX6_bySets_155 (tgt := 72) (by decide) ?_
                        exact j_pick [0, 1, 2, 3] (ih72 (by omega) _ (by omega) nx2 acc _ (hI.ge (by omega) ha cq134) (ro_s hm5 acc) (ho5.tr (Off.R rfl)))
                      · refine j_iload C dX6_bySets_137 rfl ?_
                        refine j_goto C dX6_bySets_139 (tgt := 148) (by decide) ?_
                        refine j_iastN C dX6_bySets_148 (show ilen 88 = some 256 from rfl) (by omega) (by decide) ?_
                        refine j_iload_n C dX6_bySets_149 rfl ?_
                        refine j_iconst C dX6_bySets_150 (v := nI 1) (by decide) ?_
                        refine j_isubN C dX6_bySets_151 (by omega) ?_
                        refine j_iload_n C dX6_bySets_152 rfl ?_
                        refine j_iand C dX6_bySets_153 ?_
                        refine j_top C (_) (nI_and (by omega) (by omega)) ?_
                        refine j_istore_n C dX6_bySets_154 (by decide) ?_
                        refine j_goto C dX6_bySets_155 (tgt := 72) (by decide) ?_
                        exact j_pick [0, 1, 2, 3] (ih72 (by omega) _ (by omega) nx2 _ _ (hI.lt hnd (by omega) ha hxx cq123 cq134) (ro_s hm5 _) (ho5.tr (Off.R rfl)))
                  · refine j_iload_n C dX6_bySets_86 rfl ?_
                    refine j_iload_n C dX6_bySets_87 rfl ?_
                    refine j_iand C dX6_bySets_88 ?_
                    refine j_iload_n C dX6_bySets_89 rfl ?_
                    refine j_ineg C dX6_bySets_90 ?_
                    refine j_iand C dX6_bySets_91 ?_
                    refine j_top C (_) (lo_an h03 (by omega) (by omega)) ?_
                    have hle9 : a &&& 2 ^ lo s ≤ a := Nat.and_le_left
                    refine j_if_eqN C dX6_bySets_92 (tgt := 99) (by decide) (by omega) (fun cq92 => ?_) (fun cq92 => ?_)
                    · refine j_iconst C dX6_bySets_99 (v := nI 0) (by decide) ?_
                      refine j_top C (bI (pln s a x)) (by first | exact pln_f1 cq83 | exact pln_f2 cq92) ?_
                      refine j_istore C dX6_bySets_100 (by decide) ?_
                      refine j_aload_n C dX6_bySets_102 rfl ?_
                      refine j_getf C dX6_bySets_103 rfl (by decide) (T := TX6) rfl in_X6_bySets_X6 (k := 6) (by decide) fl_X6_bySets_21 rfl rfl ?_
                      refine j_iload_n C dX6_bySets_106 rfl ?_
                      refine j_iload_n C dX6_bySets_107 rfl ?_
                      refine j_iconst C dX6_bySets_108 (v := -1) (by decide) ?_
                      refine j_ixor C dX6_bySets_109 ?_
                      refine j_iand C dX6_bySets_110 ?_
                      refine j_top C (_) (wo_part (by omega) ha) ?_
                      refine j_ialdN C dX6_bySets_111 (show ilen 88 = some 256 from rfl) (by omega) (by decide) ?_
                      refine j_top C (nI (nd (s ^^^ a))) (by rw [hm5 _ (by omega), if_neg (by omega), if_pos hwl]) ?_
                      refine j_iconst C dX6_bySets_112 (v := nI 1) (by decide) ?_
                      refine j_iaddN C dX6_bySets_113 ?_
                      refine j_istore C dX6_bySets_114 (by decide) ?_
                      refine j_aload_n C dX6_bySets_116 rfl ?_
                      refine j_getf C dX6_bySets_117 rfl (by decide) (T := TX6) rfl in_X6_bySets_X6 (k := 6) (by decide) fl_X6_bySets_21 rfl rfl ?_
                      refine j_iload_n C dX6_bySets_120 rfl ?_
                      refine j_iload C dX6_bySets_121 rfl ?_
                      refine j_if_eqB C dX6_bySets_123 (tgt := 142) (by decide) (fun cq123 => ?_) (fun cq123 => ?_)
                      · refine j_aload_n C dX6_bySets_142 rfl ?_
                        refine j_getf C dX6_bySets_143 rfl (by decide) (T := TX6) rfl in_X6_bySets_X6 (k := 6) (by decide) fl_X6_bySets_21 rfl rfl ?_
                        refine j_iload_n C dX6_bySets_146 rfl ?_
                        refine j_ialdN C dX6_bySets_147 (show ilen 88 = some 256 from rfl) (by omega) (by decide) ?_
                        refine j_top C (nI acc) (by rw [hm5 s (by omega), if_pos rfl]) ?_
                        refine j_iastN C dX6_bySets_148 (show ilen 88 = some 256 from rfl) (by omega) (by decide) ?_
                        refine j_iload_n C dX6_bySets_149 rfl ?_
                        refine j_iconst C dX6_bySets_150 (v := nI 1) (by decide) ?_
                        refine j_isubN C dX6_bySets_151 (by omega) ?_
                        refine j_iload_n C dX6_bySets_152 rfl ?_
                        refine j_iand C dX6_bySets_153 ?_
                        refine j_top C (_) (nI_and (by omega) (by omega)) ?_
                        refine j_istore_n C dX6_bySets_154 (by decide) ?_
                        refine j_goto C dX6_bySets_155 (tgt := 72) (by decide) ?_
                        exact j_pick [0, 1, 2, 3] (ih72 (by omega) _ (by omega) nx2 acc _ (hI.no hnd h03 (by omega) ha hxx cq123) (ro_s hm5 acc) (ho5.tr (Off.R rfl)))
                      · refine j_iload C dX6_bySets_126 rfl ?_
                        refine j_aload_n C dX6_bySets_128 rfl ?_
                        refine j_getf C dX6_bySets_129 rfl (by decide) (T := TX6) rfl in_X6_bySets_X6 (k := 6) (by decide) fl_X6_bySets_21 rfl rfl ?_
                        refine j_iload_n C dX6_bySets_132 rfl ?_
                        refine j_ialdN C dX6_bySets_133 (show ilen 88 = some 256 from rfl) (by omega) (by decide) ?_
                        refine j_top C (nI acc) (by rw [hm5 s (by omega), if_pos rfl]) ?_
                        refine j_icmp_geN C dX6_bySets_134 (tgt := 142) (by decide) (by omega) (by omega) (fun cq134 => ?_) (fun cq134 => ?_)
                        · refine j_aload_n C dX6_bySets_142 rfl ?_
                          refine j_getf C dX6_bySets_143 rfl (by decide) (T := TX6) rfl in_X6_bySets_X6 (k := 6) (by decide) fl_X6_bySets_21 rfl rfl ?_
                          refine j_iload_n C dX6_bySets_146 rfl ?_
                          refine j_ialdN C dX6_bySets_147 (show ilen 88 = some 256 from rfl) (by omega) (by decide) ?_
                          refine j_top C (nI acc) (by rw [hm5 s (by omega), if_pos rfl]) ?_
                          refine j_iastN C dX6_bySets_148 (show ilen 88 = some 256 from rfl) (by omega) (by decide) ?_
                          refine j_iload_n C dX6_bySets_149 rfl ?_
                          refine j_iconst C dX6_bySets_150 (v := nI 1) (by decide) ?_
                          refine j_isubN C dX6_bySets_151 (by omega) ?_
                          refine j_iload_n C dX6_bySets_152 rfl ?_
                          refine j_iand C dX6_bySets_153 ?_
                          refine j_top C (_) (nI_and (by omega) (by omega)) ?_
                          refine j_istore_n C dX6_bySets_154 (by decide) ?_
                          refine j_goto C dX6_bySets_155 (tgt := 72) (by decide) ?_
                          exact j_pick [0, 1, 2, 3] (ih72 (by omega) _ (by omega) nx2 acc _ (hI.ge (by omega) ha cq134) (ro_s hm5 acc) (ho5.tr (Off.R rfl)))
                        · refine j_iload C dX6_bySets_137 rfl ?_
                          refine j_goto C dX6_bySets_139 (tgt := 148) (by decide) ?_
                          refine j_iastN C dX6_bySets_148 (show ilen 88 = some 256 from rfl) (by omega) (by decide) ?_
                          refine j_iload_n C dX6_bySets_149 rfl ?_
                          refine j_iconst C dX6_bySets_150 (v := nI 1) (by decide) ?_
                          refine j_isubN C dX6_bySets_151 (by omega) ?_
                          refine j_iload_n C dX6_bySets_152 rfl ?_
                          refine j_iand C dX6_bySets_153 ?_
                          refine j_top C (_) (nI_and (by omega) (by omega)) ?_
                          refine j_istore_n C dX6_bySets_154 (by decide) ?_
                          refine j_goto C dX6_bySets_155 (tgt := 72) (by decide) ?_
                          exact j_pick [0, 1, 2, 3] (ih72 (by omega) _ (by omega) nx2 _ _ (hI.lt hnd (by omega) ha hxx cq123 cq134) (ro_s hm5 _) (ho5.tr (Off.R rfl)))
                    · refine j_iconst C dX6_bySets_95 (v := nI 1) (by decide) ?_
                      refine j_top C (bI (pln s a x)) (pln_t cq83 cq92) ?_
                      refine j_goto C dX6_bySets_96 (tgt := 100) (by decide) ?_
                      refine j_istore C dX6_bySets_100 (by decide) ?_
                      refine j_aload_n C dX6_bySets_102 rfl ?_
                      refine j_getf C dX6_bySets_103 rfl (by decide) (T := TX6) rfl in_X6_bySets_X6 (k := 6) (by decide) fl_X6_bySets_21 rfl rfl ?_
                      refine j_iload_n C dX6_bySets_106 rfl ?_
                      refine j_iload_n C dX6_bySets_107 rfl ?_
                      refine j_iconst C dX6_bySets_108 (v := -1) (by decide) ?_
                      refine j_ixor C dX6_bySets_109 ?_
                      refine j_iand C dX6_bySets_110 ?_
                      refine j_top C (_) (wo_part (by omega) ha) ?_
                      refine j_ialdN C dX6_bySets_111 (show ilen 88 = some 256 from rfl) (by omega) (by decide) ?_
                      refine j_top C (nI (nd (s ^^^ a))) (by rw [hm5 _ (by omega), if_neg (by omega), if_pos hwl]) ?_
                      refine j_iconst C dX6_bySets_112 (v := nI 1) (by decide) ?_
                      refine j_iaddN C dX6_bySets_113 ?_
                      refine j_istore C dX6_bySets_114 (by decide) ?_
                      refine j_aload_n C dX6_bySets_116 rfl ?_
                      refine j_getf C dX6_bySets_117 rfl (by decide) (T := TX6) rfl in_X6_bySets_X6 (k := 6) (by decide) fl_X6_bySets_21 rfl rfl ?_
                      refine j_iload_n C dX6_bySets_120 rfl ?_
                      refine j_iload C dX6_bySets_121 rfl ?_
                      refine j_if_eqB C dX6_bySets_123 (tgt := 142) (by decide) (fun cq123 => ?_) (fun cq123 => ?_)
                      · refine j_aload_n C dX6_bySets_142 rfl ?_
                        refine j_getf C dX6_bySets_143 rfl (by decide) (T := TX6) rfl in_X6_bySets_X6 (k := 6) (by decide) fl_X6_bySets_21 rfl rfl ?_
                        refine j_iload_n C dX6_bySets_146 rfl ?_
                        refine j_ialdN C dX6_bySets_147 (show ilen 88 = some 256 from rfl) (by omega) (by decide) ?_
                        refine j_top C (nI acc) (by rw [hm5 s (by omega), if_pos rfl]) ?_
                        refine j_iastN C dX6_bySets_148 (show ilen 88 = some 256 from rfl) (by omega) (by decide) ?_
                        refine j_iload_n C dX6_bySets_149 rfl ?_
                        refine j_iconst C dX6_bySets_150 (v := nI 1) (by decide) ?_
                        refine j_isubN C dX6_bySets_151 (by omega) ?_
                        refine j_iload_n C dX6_bySets_152 rfl ?_
                        refine j_iand C dX6_bySets_153 ?_
                        refine j_top C (_) (nI_and (by omega) (by omega)) ?_
                        refine j_istore_n C dX6_bySets_154 (by decide) ?_
                        refine j_goto C dX6_bySets_155 (tgt := 72) (by decide) ?_
                        exact j_pick [0, 1, 2, 3] (ih72 (by omega) _ (by omega) nx2 acc _ (hI.no hnd h03 (by omega) ha hxx cq123) (ro_s hm5 acc) (ho5.tr (Off.R rfl)))
                      · refine j_iload C dX6_bySets_126 rfl ?_
                        refine j_aload_n C dX6_bySets_128 rfl ?_
                        refine j_getf C dX6_bySets_129 rfl (by decide) (T := TX6) rfl in_X6_bySets_X6 (k := 6) (by decide) fl_X6_bySets_21 rfl rfl ?_
                        refine j_iload_n C dX6_bySets_132 rfl ?_
                        refine j_ialdN C dX6_bySets_133 (show ilen 88 = some 256 from rfl) (by omega) (by decide) ?_
                        refine j_top C (nI acc) (by rw [hm5 s (by omega), if_pos rfl]) ?_
                        refine j_icmp_geN C dX6_bySets_134 (tgt := 142) (by decide) (by omega) (by omega) (fun cq134 => ?_) (fun cq134 => ?_)
                        · refine j_aload_n C dX6_bySets_142 rfl ?_
                          refine j_getf C dX6_bySets_143 rfl (by decide) (T := TX6) rfl in_X6_bySets_X6 (k := 6) (by decide) fl_X6_bySets_21 rfl rfl ?_
                          refine j_iload_n C dX6_bySets_146 rfl ?_
                          refine j_ialdN C dX6_bySets_147 (show ilen 88 = some 256 from rfl) (by omega) (by decide) ?_
                          refine j_top C (nI acc) (by rw [hm5 s (by omega), if_pos rfl]) ?_
                          refine j_iastN C dX6_bySets_148 (show ilen 88 = some 256 from rfl) (by omega) (by decide) ?_
                          refine j_iload_n C dX6_bySets_149 rfl ?_
                          refine j_iconst C dX6_bySets_150 (v := nI 1) (by decide) ?_
                          refine j_isubN C dX6_bySets_151 (by omega) ?_
                          refine j_iload_n C dX6_bySets_152 rfl ?_
                          refine j_iand C dX6_bySets_153 ?_
                          refine j_top C (_) (nI_and (by omega) (by omega)) ?_
                          refine j_istore_n C dX6_bySets_154 (by decide) ?_
                          refine j_goto C dX6_bySets_155 (tgt := 72) (by decide) ?_
                          exact j_pick [0, 1, 2, 3] (ih72 (by omega) _ (by omega) nx2 acc _ (hI.ge (by omega) ha cq134) (ro_s hm5 acc) (ho5.tr (Off.R rfl)))
                        · refine j_iload C dX6_bySets_137 rfl ?_
                          refine j_goto C dX6_bySets_139 (tgt := 148) (by decide) ?_
                          refine j_iastN C dX6_bySets_148 (show ilen 88 = some 256 from rfl) (by omega) (by decide) ?_
                          refine j_iload_n C dX6_bySets_149 rfl ?_
                          refine j_iconst C dX6_bySets_150 (v := nI 1) (by decide) ?_
                          refine j_isubN C dX6_bySets_151 (by omega) ?_
                          refine j_iload_n C dX6_bySets_152 rfl ?_
                          refine j_iand C dX6_bySets_153 ?_
                          refine j_top C (_) (nI_and (by omega) (by omega)) ?_
                          refine j_istore_n C dX6_bySets_154 (by decide) ?_
                          refine j_goto C dX6_bySets_155 (tgt := 72) (by decide) ?_
                          exact j_pick [0, 1, 2, 3] (ih72 (by omega) _ (by omega) nx2 _ _ (hI.lt hnd (by omega) ha hxx cq123 cq134) (ro_s hm5 _) (ho5.tr (Off.R rfl)))
              exact L72 0 (by omega) s (by omega) (Nat.and_self s) _ M4 (Iv.z hr h03) (fun m hm => by rw [hm4 m hm]; exact ro_1) ho4
          exact L63 1 (by omega) (by omega) M3 (fun m hm => by rw [hm3 m hm, if_pos (by omega)]; exact nd_1 nd0) ho3
        · refine j_aload_n C dX6_bySets_39 rfl ?_
          refine j_iload_n C dX6_bySets_40 rfl ?_
          refine j_iload_n C dX6_bySets_41 rfl ?_
          refine j_callV C (cm_isPlain hS3 hW hp (by omega)) dX6_bySets_42 rfl (by decide) (T := TX6) rfl gX6_bySets_X6_isPlain rfl kd_X6_isPlain rfl rfl (Nat.le_of_ble_eq_true rfl) ⟨by decide, by decide⟩ ⟨Nat.zero_le _, Nat.zero_le _⟩ (k_I ?_)
          refine j_if_eqB C dX6_bySets_45 (tgt := 55) (by decide) (fun cq45 => ?_) (fun cq45 => ?_)
          · refine j_iincN C dX6_bySets_55 rfl (by decide) ?_
            refine j_goto C dX6_bySets_58 (tgt := 32) (by decide) ?_
            exact ih32 (by omega) (by omega) _ (fun m hm => by rw [hm3 m hm]; exact in_f cq45 h02) ho3
          · refine j_aload_n C dX6_bySets_48 rfl ?_
            refine j_getf C dX6_bySets_49 rfl (by decide) (T := TX6) rfl in_X6_bySets_X6 (k := 6) (by decide) fl_X6_bySets_21 rfl rfl ?_
            refine j_iload_n C dX6_bySets_52 rfl ?_
            refine j_iconst C dX6_bySets_53 (v := nI 1) (by decide) ?_
            refine j_iastN C dX6_bySets_54 (show ilen 88 = some 256 from rfl) (by omega) (by decide) ?_
            refine j_iincN C dX6_bySets_55 rfl (by decide) ?_
            refine j_goto C dX6_bySets_58 (tgt := 32) (by decide) ?_
            exact ih32 (by omega) (by omega) _ (fun m hm => in_t hm3 cq45 h02 m hm) (ho3.tr (Off.R rfl))
      exact L32 1 (by omega) (by omega) M2 (fun m hm => by rw [hm2 m (by omega)]; exact in_1) ho2
    · refine j_aload_n C dX6_bySets_16 rfl ?_
      refine j_getf C dX6_bySets_17 rfl (by decide) (T := TX6) rfl in_X6_bySets_X6 (k := 6) (by decide) fl_X6_bySets_21 rfl rfl ?_
      refine j_iload_n C dX6_bySets_20 rfl ?_
      refine j_bipush C dX6_bySets_21 (v := nI 8) (by decide) ?_
      refine j_iastN C dX6_bySets_23 (show ilen 88 = some 256 from rfl) (by omega) (by decide) ?_
      refine j_iincN C dX6_bySets_24 rfl (by decide) ?_
      refine j_goto C dX6_bySets_27 (tgt := 9) (by decide) ?_
      exact ih9 (by omega) (by omega) _ (fun m hm => (lt_or m s hm).elim (fun q => by rw [setR_eq, upd_ne (by omega)]; exact hm2 m q) (fun q => by rw [setR_eq, q, upd_eq, if_neg (by omega)])) (ho2.tr (Off.R rfl))
  exact L9 1 (by omega) (by omega) _ (fun m hm => by rw [show m = 0 by omega, setR_eq, upd_eq]; rfl) (Off.R rfl)

/-! the start: what the tables and the Statement say of it; the memory's first picture -/
theorem st_arr {s : State} {args : Array Value} {ty : FieldType} (h : (Cond.arrayClass ty).before args s = true) : ∃ c : ClassId, s.vm.findClass ("[" ++ ty.toString) = some c ∧ ArrOfT s c ty := by
  obtain ⟨c, k, comp, h1, h2, h3⟩ := Cond.arrayClass_spec h
  exact ⟨c, h1, fun N z => ⟨(fun k h => by cases h), k, h2, comp, h3⟩⟩
theorem st_arO {s : State} {args : Array Value} {C : String} (h : (Cond.arrayOver (.object C)).before args s = true) : ∃ c : ClassId, ArrOfT s c (.object C) ∧ va_RA s c (.object C) := by
  obtain ⟨comp, c, k, h1, h2, h3, h4, h5⟩ := Cond.arrayOver_spec h
  exact ⟨c, fun N z => ⟨(fun k h => by cases h), k, h3, comp, h4⟩, k, comp, h3, h4, h1, h5⟩
theorem nestF_tbl : ∀ w ∈ nestF, w ∈ lw_tbl := by decide +kernel
theorem nestF_on : ∀ w ∈ nestF, w.onTables = true := by decide +kernel
theorem nestM_tbl : ∀ w ∈ nestM, w ∈ lw_tbl := by decide +kernel
theorem nestM_on : ∀ w ∈ nestM, w.onTables = true := by decide +kernel
theorem xB_tbl : ∀ w ∈ xB, w ∈ lw_tbl := by decide +kernel
theorem xB_on : ∀ w ∈ xB, w.onTables = true := by decide +kernel
theorem st_K {s : State} {args : Array Value} (hts : ∀ w ∈ lw_tbl, w.before args s = true) : ∃ (D : va_G) (cI : Nat → ClassId), ∀ adr : Nat → Nat, KC (D, cI, adr) s := by
  obtain ⟨c0, i0, h0⟩ := u_known (C := RX0) (T := TX0) (N := 10) (n := 10) hts inX0 (hts (.instantiable RX0 10) (by decide +kernel))
  obtain ⟨c2, i2, h2⟩ := u_known (C := RX2) (T := TX2) (N := 4) (n := 4) hts inX2 (hts (.instantiable RX2 4) (by decide +kernel))
  obtain ⟨c3, i3, h3⟩ := u_known (C := RX3) (T := TX3) (N := 4) (n := 4) hts inX3 (hts (.instantiable RX3 4) (by decide +kernel))
  obtain ⟨c4, i4, h4⟩ := u_known (C := RX4) (T := TX4) (N := 2) (n := 2) hts inX4 (hts (.instantiable RX4 2) (by decide +kernel))
  obtain ⟨c5, i5, h5⟩ := u_known (C := RX5) (T := TX5) (N := 4) (n := 4) hts inX5 (hts (.instantiable RX5 4) (by decide +kernel))
  obtain ⟨a0, f0, g0⟩ := st_arr (hts (.arrayClass .int) (by decide +kernel))
  obtain ⟨a1, f1, g1⟩ := st_arr (hts (.arrayClass .boolean) (by decide +kernel))
  have hov := hts (.arrayOver (.object "PotLabels$Bureau")) (by decide +kernel)
  obtain ⟨a3, g3, f3⟩ := st_arO hov
  refine ⟨(fun k => match k with | 0 => c0 | 1 => c2 | 2 => c3 | 3 => c4 | _ => c5, fun k => match k with | 0 => i0 | 1 => i2 | 2 => i3 | 3 => i4 | _ => i5), fun k => match k with | 0 => a0 | 1 => a1 | 2 => a0 | _ => a3, fun adr => ⟨⟨⟨fun k q hq => ?_, fun k q hq => ?_⟩, fun w hw => va_Nw.of (nestF_on w hw) (hts w (nestF_tbl w hw))⟩, va_AO.of hov, fun w hw => va_Nw.of (nestM_on w hw) (hts w (nestM_tbl w hw))⟩⟩
  · match k, hq with
    | 0, hq => cases hq; exact h0
    | 1, hq => cases hq; exact h2
    | 2, hq => cases hq; exact h3
    | 3, hq => cases hq; exact h4
    | 4, hq => cases hq; exact h5
    | k + 5, hq => simp [vwCl] at hq
  · match k, hq with
    | 0, hq => cases hq; exact ⟨g0, f0⟩
    | 1, hq => cases hq; exact ⟨g1, f1⟩
    | 2, hq => cases hq; exact ⟨g0, f0⟩
    | 3, hq => cases hq; exact ⟨g3, f3⟩
    | k + 4, hq => simp [tysG] at hq
theorem xSt_tbl : ∀ q ∈ xSt, Cond.stringRef RX5 q.1 q.2 ∈ lw_tbl := by decide +kernel
theorem xSt_giv : ∀ q ∈ xSt, Cond.exactly (.string RX5 q.1) "java/lang/String" ∈ flatC (Jvm.Cond.and given_1 narrow_1) := by decide +kernel
theorem xNc_giv : ∀ q ∈ xNc, Cond.not (.castable q.1 q.2) ∈ flatC (Jvm.Cond.and given_1 narrow_1) := by decide +kernel
theorem st_X {s : State} {args : Array Value} (hts : ∀ w ∈ lw_tbl, w.before args s = true) (hgv : (Jvm.Cond.and given_1 narrow_1).before args s = true) : XW (fun q => s.heap.size ≤ q) s := by
  have hs := flat_of_before _ hgv
  have hA : ∀ a : Nat, a < s.heap.size → ¬ (fun q : Nat => s.heap.size ≤ q) a := fun a h h2 => Nat.not_le.mpr h h2
  refine ⟨⟨vx_Zqof (hts _ (by decide +kernel)) (hts _ (by decide +kernel)) (hs _ (by decide +kernel)) hA, vx_Zqof (hts _ (by decide +kernel)) (hts _ (by decide +kernel)) (hs _ (by decide +kernel)) hA⟩, fun q hq => ?_, fun w hw => va_Nw.of (xB_on w hw) (hts w (xB_tbl w hw)), fun q hq => va_Nc.of (hs _ (xNc_giv q hq))⟩
  obtain ⟨a, c, cell, k, h, -⟩ := Cond.exactly_spec (hs _ (xSt_giv q hq))
  exact ⟨a, vk_R.of (hts _ (xSt_tbl q hq)) h⟩
/-! the first picture -/
def M00 : MM := (fun a => if a < 72 then (match a % 8 with | 2 => fI mI 8 | 3 => fI nI 4 | 4 => fI t3 4 | 5 => fI mI 4 | _ => fZ) else fZ, fun _ _ => nI 0, fun k => k, fun _ => 0)
def σ00 : Sg := fun k => if k < 32 then 0 else if k < 44 then (if k % 3 = 2 then (k - 32) / 3 else if k % 3 = 0 then 3 else 0) else 0
def S00 : SS := (σ00, 0, fun _ => σ00, fun _ => σ00, fun _ => false, 0, fun _ => 33)
theorem Wf_00 : Wf σ00 := by unfold Wf; decide +kernel
theorem OkS_00 : OkS S00 := ⟨Wf_00, fun k hk => absurd hk (Nat.not_lt_zero k), fun t _ h => Bool.noConfusion (show false = true from h)⟩
theorem Bu_00 : Bu M00 0 σ00 := by unfold Bu; decide +kernel
theorem Xc_00 : Xc M00 S00 := ⟨Bu_00, ⟨by decide, rfl, fun k hk => hk, fun i j _ _ h => h, fun k hk => absurd hk (Nat.not_lt_zero k)⟩, fun t _ => rfl, fun t _ h => Bool.noConfusion (show false = true from h), ⟨by decide, rfl, fun j hj => absurd hj (Nat.not_lt_zero j), fun j hj => absurd hj (Nat.not_lt_zero j)⟩, fun j _ => rfl⟩
/-! the addresses, by their numbers -/
def adr9 (c : Nat) (b0 m t lb : Nat → Nat) (b : Nat → Nat → Nat) (i : Nat) : Nat := if i < 8 then b0 i else if i < 72 then b (i / 8) (i % 8) else match i with | 72 => c | 73 => m 0 | 74 => m 1 | 75 => m 2 | 76 => m 3 | 77 => t 0 | 78 => t 1 | 79 => lb 0 | 80 => lb 1 | 81 => lb 2 | 82 => lb 3 | _ => lb 4
def W9 (G : GG) (c : Nat) (b0 m t lb : Nat → Nat) (b : Nat → Nat → Nat) : va_W := [] ++ pot9 G c b0 m b t lb
def pos9 (i : Nat) : Nat := if i < 8 then i + 1 else if i < 72 then i + 5 else if i = 72 then 0 else if i < 77 then i - 64 else i
theorem lt_step {P : Nat → Prop} {n : Nat} (h : ∀ k, k < n → P k) (h2 : P n) : ∀ k, k < n + 1 → P k := fun k hk => (Nat.lt_succ_iff_lt_or_eq.mp hk).elim (h k) (fun e => e ▸ h2)
theorem lt_none {P : Nat → Prop} : ∀ k, k < 0 → P k := fun k h => absurd h (Nat.not_lt_zero k)
def W92 (G : GG) (c : Nat) (b0 m t lb : Nat → Nat) (b : Nat → Nat → Nat) : va_W := ((W9 G c b0 m t lb b).set 10 (m 1, .inl (G.2.1 3, 2, refs (fun k => some (adr9 c b0 m t lb b (8 * (k + 1))))))).set 12 (m 3, .inl (G.2.1 3, 6, refs (fun k => some (adr9 c b0 m t lb b (8 * (3 + k))))))
set_option maxHeartbeats 4000000 in
set_option maxRecDepth 100000 in
theorem W92_at {D : va_G} {cI : Nat → ClassId} {c : Nat} {b0 m t lb : Nat → Nat} {b : Nat → Nat → Nat} : ∀ k, k < 84 → (W92 (D, cI, adr9 c b0 m t lb b) c b0 m t lb b)[pos9 k]? = some (adr9 c b0 m t lb b k, cellOf (D, cI, adr9 c b0 m t lb b) M00 k) := by
  refine lt_step ?_ rfl
  refine lt_step ?_ rfl
  refine lt_step ?_ rfl
  refine lt_step ?_ rfl
  refine lt_step ?_ rfl
  refine lt_step ?_ rfl
  refine lt_step ?_ rfl
  refine lt_step ?_ rfl
  refine lt_step ?_ rfl
  refine lt_step ?_ rfl
  refine lt_step ?_ rfl
  refine lt_step ?_ rfl
  refine lt_step ?_ rfl
  refine lt_step ?_ rfl
  refine lt_step ?_ rfl
  refine lt_step ?_ rfl
  refine lt_step ?_ rfl
  refine lt_step ?_ rfl
  refine lt_step ?_ rfl
  refine lt_step ?_ rfl
  refine lt_step ?_ rfl
  refine lt_step ?_ rfl
  refine lt_step ?_ rfl
  refine lt_step ?_ rfl
  refine lt_step ?_ rfl
  refine lt_step ?_ rfl
  refine lt_step ?_ rfl
  refine lt_step ?_ rfl
  refine lt_step ?_ rfl
  refine lt_step ?_ rfl
  refine lt_step ?_ rfl
  refine lt_step ?_ rfl
  refine lt_step ?_ rfl
  refine lt_step ?_ rfl
  refine lt_step ?_ rfl
  refine lt_step ?_ rfl
  refine lt_step ?_ rfl
  refine lt_step ?_ rfl
  refine lt_step ?_ rfl
  refine lt_step ?_ rfl
  refine lt_step ?_ rfl
  refine lt_step ?_ rfl
  refine lt_step ?_ rfl
  refine lt_step ?_ rfl
  refine lt_step ?_ rfl
  refine lt_step ?_ rfl
  refine lt_step ?_ rfl
  refine lt_step ?_ rfl
  refine lt_step ?_ rfl
  refine lt_step ?_ rfl
  refine lt_step ?_ rfl
  refine lt_step ?_ rfl
  refine lt_step ?_ rfl
  refine lt_step ?_ rfl
  refine lt_step ?_ rfl
  refine lt_step ?_ rfl
  refine lt_step ?_ rfl
  refine lt_step ?_ rfl
  refine lt_step ?_ rfl
  refine lt_step ?_ rfl
  refine lt_step ?_ rfl
  refine lt_step ?_ rfl
  refine lt_step ?_ rfl
  refine lt_step ?_ rfl
  refine lt_step ?_ rfl
  refine lt_step ?_ rfl
  refine lt_step ?_ rfl
  refine lt_step ?_ rfl
  refine lt_step ?_ rfl
  refine lt_step ?_ rfl
  refine lt_step ?_ rfl
  refine lt_step ?_ rfl
  refine lt_step ?_ rfl
  refine lt_step ?_ rfl
  refine lt_step ?_ rfl
  refine lt_step ?_ rfl
  refine lt_step ?_ rfl
  refine lt_step ?_ rfl
  refine lt_step ?_ rfl
  refine lt_step ?_ rfl
  refine lt_step ?_ rfl
  refine lt_step ?_ rfl
  refine lt_step ?_ rfl
  refine lt_step ?_ rfl
  exact lt_none
theorem pos9_inj {i j : Nat} (hi : i < 84) (hj : j < 84) (h : pos9 i = pos9 j) : i = j := by
  unfold pos9 at h
  (repeat' split at h) <;> omega
theorem st_world {D : va_G} {cI : Nat → ClassId} {c : Nat} {b0 m t lb : Nat → Nat} {b : Nat → Nat → Nat} {H : Heap} {A : Nat → Prop} {G0 : GG} (hG : G0.2.1 = cI) (hP : va_P D vwCl (W9 G0 c b0 m t lb b) H) (hD : va_D A (W9 G0 c b0 m t lb b)) : va_P D vwCl (WS (D, cI, adr9 c b0 m t lb b) M00) H ∧ GInj (adr9 c b0 m t lb b) ∧ ∀ i, i < NN → A (adr9 c b0 m t lb b i) := by
  subst hG
  have hx1 : (W9 G0 c b0 m t lb b)[10]? = some (m 1, .inl (G0.2.1 3, 2, refs (upN 2 (fun k => b (k + 1) 0)))) := rfl
  have hP1 := refP (g := fun k => some (adr9 c b0 m t lb b (8 * (k + 1)))) hP hD hx1 (lt_step (lt_step lt_none rfl) rfl)
  have hD1 := hD.set (e := .inl (G0.2.1 3, 2, refs (fun k => some (adr9 c b0 m t lb b (8 * (k + 1)))))) hx1
  have hx2 : ((W9 G0 c b0 m t lb b).set 10 (m 1, .inl (G0.2.1 3, 2, refs (fun k => some (adr9 c b0 m t lb b (8 * (k + 1)))))))[12]? = some (m 3, .inl (G0.2.1 3, 6, refs (upN 6 (fun k => b (k + 3) 0)))) := rfl
  have hP2 := refP (g := fun k => some (adr9 c b0 m t lb b (8 * (3 + k)))) hP1 hD1 hx2 (lt_step (lt_step (lt_step (lt_step (lt_step (lt_step lt_none rfl) rfl) rfl) rfl) rfl) rfl)
  have hD2 := hD1.set (e := .inl (G0.2.1 3, 6, refs (fun k => some (adr9 c b0 m t lb b (8 * (3 + k)))))) hx2
  have hW := W92_at (D := D) (cI := G0.2.1) (c := c) (b0 := b0) (m := m) (t := t) (lb := lb) (b := b)
  refine ⟨va_P.by hP2 pos9 (fun k q hk => ?_), fun i j hi hj h => ?_, fun i hi => hD2.2 _ _ (hW i hi)⟩
  · obtain ⟨h1, rfl⟩ := WS_get_lt hk
    exact hW k h1
  · exact pos9_inj hi hj (hD2.1 _ _ _ _ (hW i hi) (hW j hj) h)

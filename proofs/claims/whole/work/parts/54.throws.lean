theorem np_no {v : Int32} {n : Nat} (h0 : ¬ v < 0) (h : inI v (nI 0) (nI n) = false) (hn : n + 1 < 2 ^ 31) : ¬ v < nI (n + 1) := fun q => by
  rcases pk_ix v hn with h1 | h1 | ⟨j, h1, rfl⟩
  · exact h0 h1
  · exact Int32.not_lt.mpr h1 q
  · rw [inI_N (Nat.zero_le j) (by omega) (by omega)] at h; cases h
theorem nc_no {v : Int32} {n : Nat} (h0 : ¬ v < 0) (h : inI v (nI 0) (nI n - nI 1) = false) (hn : n ≤ 6) : ¬ v < nI n := fun q => by
  rcases pk_ix v (n := n) (by omega) with h1 | h1 | ⟨j, h1, rfl⟩
  · exact h0 h1
  · exact Int32.not_lt.mpr h1 q
  · rw [pk_sub (by omega), inI_N (Nat.zero_le j) (by omega) (by omega)] at h; cases h
theorem nw_no {v lo hi : Int32} (h0 : ¬ v < lo) (h : inI v lo hi = false) : ¬ v ≤ hi := fun q => by
  rw [inI_t (Int32.not_lt.mp h0) q] at h; cases h
theorem tb_out {v : Int32} {n : Nat} (h : inI v (nI 0) (nI n) = false) (hn : n < 2 ^ 31) : v.toInt < 0 ∨ (n : Int) < v.toInt := by
  rcases Int.lt_or_le v.toInt 0 with h1 | h1
  · exact Or.inl h1
  · rcases Int.lt_or_le (n : Int) v.toInt with h2 | h2
    · exact Or.inr h2
    · rw [inI_t (Int32.le_iff_toInt_le.mpr (by rw [nI_toInt (by decide)]; exact h1)) (Int32.le_iff_toInt_le.mpr (by rw [nI_toInt hn]; exact h2))] at h
      cases h
set_option maxRecDepth 20000 in
theorem thw_X5_needPot_298 : thW 298 302 "java/lang/IndexOutOfBoundsException" wsX5_needPot := ⟨by decide +kernel, by decide +kernel, by decide +kernel, by decide +kernel, by decide +kernel, by decide +kernel⟩
set_option maxRecDepth 20000 in
theorem thw_X5_needPainter_298 : thW 298 302 "java/lang/IndexOutOfBoundsException" wsX5_needPainter := ⟨by decide +kernel, by decide +kernel, by decide +kernel, by decide +kernel, by decide +kernel, by decide +kernel⟩
set_option maxRecDepth 20000 in
theorem thw_X5_needWithin_137 : thW 137 141 "java/lang/IllegalArgumentException" wsX5_needWithin := ⟨by decide +kernel, by decide +kernel, by decide +kernel, by decide +kernel, by decide +kernel, by decide +kernel⟩
set_option maxRecDepth 20000 in
theorem thw_X5_needUnlike_137 : thW 137 141 "java/lang/IllegalArgumentException" wsX5_needUnlike := ⟨by decide +kernel, by decide +kernel, by decide +kernel, by decide +kernel, by decide +kernel, by decide +kernel⟩
set_option maxRecDepth 20000 in
theorem thw_X5_needChart_298 : thW 298 302 "java/lang/IndexOutOfBoundsException" wsX5_needChart := ⟨by decide +kernel, by decide +kernel, by decide +kernel, by decide +kernel, by decide +kernel, by decide +kernel⟩
set_option maxRecDepth 20000 in
theorem thw_X5_append_114 : thW 114 118 "java/lang/IllegalStateException" wsX5_append := ⟨by decide +kernel, by decide +kernel, by decide +kernel, by decide +kernel, by decide +kernel, by decide +kernel⟩
set_option maxRecDepth 20000 in
theorem thw_X5_load_137 : thW 137 141 "java/lang/IllegalArgumentException" wsX5_load := ⟨by decide +kernel, by decide +kernel, by decide +kernel, by decide +kernel, by decide +kernel, by decide +kernel⟩
set_option maxRecDepth 20000 in
theorem thw_X5_goBack_114 : thW 114 118 "java/lang/IllegalStateException" wsX5_goBack := ⟨by decide +kernel, by decide +kernel, by decide +kernel, by decide +kernel, by decide +kernel, by decide +kernel⟩
set_option maxRecDepth 20000 in
theorem thw_X5_undo_114 : thW 114 118 "java/lang/IllegalStateException" wsX5_undo := ⟨by decide +kernel, by decide +kernel, by decide +kernel, by decide +kernel, by decide +kernel, by decide +kernel⟩
set_option maxRecDepth 20000 in
theorem thw_X5_painterOf_137 : thW 137 141 "java/lang/IllegalArgumentException" wsX5_painterOf := ⟨by decide +kernel, by decide +kernel, by decide +kernel, by decide +kernel, by decide +kernel, by decide +kernel⟩
set_option maxRecDepth 20000 in
theorem thw_X5_chartOf_137 : thW 137 141 "java/lang/IllegalArgumentException" wsX5_chartOf := ⟨by decide +kernel, by decide +kernel, by decide +kernel, by decide +kernel, by decide +kernel, by decide +kernel⟩
set_option maxRecDepth 20000 in
theorem thw_X5_count_137 : thW 137 141 "java/lang/IllegalArgumentException" wsX5_count := ⟨by decide +kernel, by decide +kernel, by decide +kernel, by decide +kernel, by decide +kernel, by decide +kernel⟩
set_option maxHeartbeats 4000000 in
set_option maxRecDepth 100000 in
theorem tt_needPot {l : Launch} {G : GG} {M : MM} (hl : l.stackTraces = false) {i : Int32} (h : inI i (nI 0) (nI 7) = false) : Tt l G yX5_needPot wsX5_needPot 0 ([.int (i)] : List Value) M "java/lang/IndexOutOfBoundsException" := by
  refine Tt.of (cc := cX5_needPot) (maxL := 1) (ret := none) (lv := [(0, .int (i))]) (by decide) rfl rfl (Nat.le_of_ble_eq_true rfl) ?_
  intro pg ev sg mm bl mt cd AZ C hXw htab
  refine j_iload_n C dX5_needPot_0 rfl ?_
  refine j_if_lt C dX5_needPot_1 (tgt := 10) (by decide) (fun cq1 => ?_) (fun cq1 => ?_)
  · exact j_throwW C hXw htab hl (text := "there is no such pot") thw_X5_needPot_298 (by decide +kernel) dX5_needPot_10 dX5_needPot_13 dX5_needPot_14 dX5_needPot_17 dX5_needPot_20 ⟨by decide, by decide, by decide, by decide⟩
  · refine j_iload_n C dX5_needPot_4 rfl ?_
    refine j_bipush C dX5_needPot_5 (v := nI 8) (by decide) ?_
    refine j_icmp_lt C dX5_needPot_7 (tgt := 21) (by decide) (fun cq7 => absurd cq7 (np_no cq1 h (by decide))) (fun cq7 => ?_)
    exact j_throwW C hXw htab hl (text := "there is no such pot") thw_X5_needPot_298 (by decide +kernel) dX5_needPot_10 dX5_needPot_13 dX5_needPot_14 dX5_needPot_17 dX5_needPot_20 ⟨by decide, by decide, by decide, by decide⟩

set_option maxHeartbeats 4000000 in
set_option maxRecDepth 100000 in
theorem tt_needPainter {l : Launch} {G : GG} {M : MM} (hl : l.stackTraces = false) {i : Int32} (h : inI i (nI 0) (nI 3) = false) : Tt l G yX5_needPainter wsX5_needPainter 0 ([.int (i)] : List Value) M "java/lang/IndexOutOfBoundsException" := by
  refine Tt.of (cc := cX5_needPainter) (maxL := 1) (ret := none) (lv := [(0, .int (i))]) (by decide) rfl rfl (Nat.le_of_ble_eq_true rfl) ?_
  intro pg ev sg mm bl mt cd AZ C hXw htab
  refine j_iload_n C dX5_needPainter_0 rfl ?_
  refine j_if_lt C dX5_needPainter_1 (tgt := 9) (by decide) (fun cq1 => ?_) (fun cq1 => ?_)
  · exact j_throwW C hXw htab hl (text := "there is no such painter") thw_X5_needPainter_298 (by decide +kernel) dX5_needPainter_9 dX5_needPainter_12 dX5_needPainter_13 dX5_needPainter_16 dX5_needPainter_19 ⟨by decide, by decide, by decide, by decide⟩
  · refine j_iload_n C dX5_needPainter_4 rfl ?_
    refine j_iconst C dX5_needPainter_5 (v := nI 4) (by decide) ?_
    refine j_icmp_lt C dX5_needPainter_6 (tgt := 20) (by decide) (fun cq6 => absurd cq6 (np_no cq1 h (by decide))) (fun cq6 => ?_)
    exact j_throwW C hXw htab hl (text := "there is no such painter") thw_X5_needPainter_298 (by decide +kernel) dX5_needPainter_9 dX5_needPainter_12 dX5_needPainter_13 dX5_needPainter_16 dX5_needPainter_19 ⟨by decide, by decide, by decide, by decide⟩

set_option maxHeartbeats 4000000 in
set_option maxRecDepth 100000 in
theorem tt_needWithin {l : Launch} {G : GG} {M : MM} (hl : l.stackTraces = false) {v lo hi : Int32} (h : inI v lo hi = false) : Tt l G yX5_needWithin wsX5_needWithin 0 ([.int (v), .int (lo), .int (hi)] : List Value) M "java/lang/IllegalArgumentException" := by
  refine Tt.of (cc := cX5_needWithin) (maxL := 3) (ret := none) (lv := [(0, .int (v)), (1, .int (lo)), (2, .int (hi))]) (by decide) rfl rfl (Nat.le_of_ble_eq_true rfl) ?_
  intro pg ev sg mm bl mt cd AZ C hXw htab
  refine j_iload_n C dX5_needWithin_0 rfl ?_
  refine j_iload_n C dX5_needWithin_1 rfl ?_
  refine j_icmp_lt C dX5_needWithin_2 (tgt := 10) (by decide) (fun cq2 => ?_) (fun cq2 => ?_)
  · exact j_throwW C hXw htab hl (text := "an argument is out of its range") thw_X5_needWithin_137 (by decide +kernel) dX5_needWithin_10 dX5_needWithin_13 dX5_needWithin_14 dX5_needWithin_17 dX5_needWithin_20 ⟨by decide, by decide, by decide, by decide⟩
  · refine j_iload_n C dX5_needWithin_5 rfl ?_
    refine j_iload_n C dX5_needWithin_6 rfl ?_
    refine j_icmp_le C dX5_needWithin_7 (tgt := 21) (by decide) (fun cq7 => absurd cq7 (nw_no cq2 h)) (fun cq7 => ?_)
    exact j_throwW C hXw htab hl (text := "an argument is out of its range") thw_X5_needWithin_137 (by decide +kernel) dX5_needWithin_10 dX5_needWithin_13 dX5_needWithin_14 dX5_needWithin_17 dX5_needWithin_20 ⟨by decide, by decide, by decide, by decide⟩

set_option maxHeartbeats 4000000 in
set_option maxRecDepth 100000 in
theorem tt_needUnlike {l : Launch} {G : GG} {M : MM} (hl : l.stackTraces = false) {v : Int32} : Tt l G yX5_needUnlike wsX5_needUnlike 0 ([.int (v), .int (v)] : List Value) M "java/lang/IllegalArgumentException" := by
  refine Tt.of (cc := cX5_needUnlike) (maxL := 2) (ret := none) (lv := [(0, .int (v)), (1, .int (v))]) (by decide) rfl rfl (Nat.le_of_ble_eq_true rfl) ?_
  intro pg ev sg mm bl mt cd AZ C hXw htab
  refine j_iload_n C dX5_needUnlike_0 rfl ?_
  refine j_iload_n C dX5_needUnlike_1 rfl ?_
  refine j_icmp_ne C dX5_needUnlike_2 (tgt := 16) (by decide) (fun cq2 => absurd cq2 (not_not_intro rfl)) (fun cq2 => ?_)
  exact j_throwW C hXw htab hl (text := "both pots are the same") thw_X5_needUnlike_137 (by decide +kernel) dX5_needUnlike_5 dX5_needUnlike_8 dX5_needUnlike_9 dX5_needUnlike_12 dX5_needUnlike_15 ⟨by decide, by decide, by decide, by decide⟩

set_option maxHeartbeats 4000000 in
set_option maxRecDepth 100000 in
theorem tt_needChart {l : Launch} {G : GG} {M : MM} (hl : l.stackTraces = false) {S : SS} (hX : Xc M S) (h44 : S.1 44 ≤ 6) {c : Int32} (h : inI c (nI 0) (nI (S.1 44) - nI 1) = false) : Tt l G yX5_needChart wsX5_needChart 0 ([.ref (G.2.2 72), .int (c)] : List Value) M "java/lang/IndexOutOfBoundsException" := by
  have hB := hX.1
  refine Tt.of (cc := cX5_needChart) (maxL := 2) (ret := none) (lv := [(0, .ref (G.2.2 72)), (1, .int (c))]) (by decide) rfl rfl (Nat.le_of_ble_eq_true rfl) ?_
  intro pg ev sg mm bl mt cd AZ C hXw htab
  refine j_iload_n C dX5_needChart_0 rfl ?_
  refine j_if_lt C dX5_needChart_1 (tgt := 15) (by decide) (fun cq1 => ?_) (fun cq1 => ?_)
  · exact j_throwW C hXw htab hl (text := "there is no such chart") thw_X5_needChart_298 (by decide +kernel) dX5_needChart_15 dX5_needChart_18 dX5_needChart_19 dX5_needChart_22 dX5_needChart_25 ⟨by decide, by decide, by decide, by decide⟩
  · refine j_iload_n C dX5_needChart_4 rfl ?_
    refine j_aload_n C dX5_needChart_5 rfl ?_
    refine j_getf C dX5_needChart_6 rfl (by decide) (T := TX5) rfl in_X5_needChart_X5 (k := 0) (by decide) fl_X5_needChart_12 rfl rfl ?_
    refine j_getfN C dX5_needChart_9 (cell_B (b := 0) (by decide)) (by decide) (T := TX0) rfl in_X5_needChart_X0 (k := 7) (by decide) nl_X5_198 rfl rfl ?_
    refine j_top C (_) hB.2.2.2.2.2.2.2.1 ?_
    refine j_icmp_lt C dX5_needChart_12 (tgt := 26) (by decide) (fun cq12 => absurd cq12 (nc_no cq1 h h44)) (fun cq12 => ?_)
    exact j_throwW C hXw htab hl (text := "there is no such chart") thw_X5_needChart_298 (by decide +kernel) dX5_needChart_15 dX5_needChart_18 dX5_needChart_19 dX5_needChart_22 dX5_needChart_25 ⟨by decide, by decide, by decide, by decide⟩

set_option maxHeartbeats 4000000 in
set_option maxRecDepth 100000 in
theorem tt_mix_1 {l : Launch} {G : GG} {M : MM} (hl : l.stackTraces = false) {i k v : Int32} (h : inI i (nI 0) (nI 7) = false) : Tt l G yX5_mix wsX5_mix 1 ([.ref (G.2.2 72), .int (i), .int (k), .int (v)] : List Value) M "java/lang/IndexOutOfBoundsException" := by
  refine Tt.of (cc := cX5_mix) (maxL := 5) (ret := (some .int)) (lv := [(0, .ref (G.2.2 72)), (1, .int (i)), (2, .int (k)), (3, .int (v))]) (by decide) rfl rfl (Nat.le_of_ble_eq_true rfl) ?_
  intro pg ev sg mm bl mt cd AZ C hXw htab
  refine j_iload_n C dX5_mix_0 rfl ?_
  exact j_callXS C hXw htab (tt_needPot hl h) dX5_mix_1 gX5_mix_X5_needPot rfl ks_X5_needPot rfl rfl (Nat.le_of_ble_eq_true rfl) ⟨by decide, by decide⟩ ⟨by decide, by decide⟩

set_option maxHeartbeats 4000000 in
set_option maxRecDepth 100000 in
theorem tt_mix_2 {l : Launch} {G : GG} {M : MM} (hl : l.stackTraces = false) {i : Nat} (hi : i < 8) {k v : Int32} (h : inI k (nI 0) (nI 2) = false) : Tt l G yX5_mix wsX5_mix 1 ([.ref (G.2.2 72), .int (nI i), .int (k), .int (v)] : List Value) M "java/lang/IllegalArgumentException" := by
  refine Tt.of (cc := cX5_mix) (maxL := 5) (ret := (some .int)) (lv := [(0, .ref (G.2.2 72)), (1, .int (nI i)), (2, .int (k)), (3, .int (v))]) (by decide) rfl rfl (Nat.le_of_ble_eq_true rfl) ?_
  intro pg ev sg mm bl mt cd AZ C hXw htab
  refine j_iload_n C dX5_mix_0 rfl ?_
  refine j_callS C (ct_needPot (by omega)) dX5_mix_1 gX5_mix_X5_needPot rfl ks_X5_needPot rfl rfl (Nat.le_of_ble_eq_true rfl) ⟨by decide, by decide⟩ ⟨Nat.zero_le _, Nat.zero_le _⟩ (k_V ?_)
  refine j_iload_n C dX5_mix_4 rfl ?_
  refine j_iconst C dX5_mix_5 (v := nI 0) (by decide) ?_
  refine j_iconst C dX5_mix_6 (v := nI 2) (by decide) ?_
  exact j_callXS C hXw htab (tt_needWithin hl h) dX5_mix_7 gX5_mix_X5_needWithin rfl ks_X5_needWithin rfl rfl (Nat.le_of_ble_eq_true rfl) ⟨by decide, by decide⟩ ⟨by decide, by decide⟩

set_option maxHeartbeats 4000000 in
set_option maxRecDepth 100000 in
theorem tt_mix_3 {l : Launch} {G : GG} {M : MM} (hl : l.stackTraces = false) {i k : Nat} (hi : i < 8) (hk : k ≤ 2) {v : Int32} (h : inI v (nI 0) (nI 9) = false) : Tt l G yX5_mix wsX5_mix 1 ([.ref (G.2.2 72), .int (nI i), .int (nI k), .int (v)] : List Value) M "java/lang/IllegalArgumentException" := by
  refine Tt.of (cc := cX5_mix) (maxL := 5) (ret := (some .int)) (lv := [(0, .ref (G.2.2 72)), (1, .int (nI i)), (2, .int (nI k)), (3, .int (v))]) (by decide) rfl rfl (Nat.le_of_ble_eq_true rfl) ?_
  intro pg ev sg mm bl mt cd AZ C hXw htab
  refine j_iload_n C dX5_mix_0 rfl ?_
  refine j_callS C (ct_needPot (by omega)) dX5_mix_1 gX5_mix_X5_needPot rfl ks_X5_needPot rfl rfl (Nat.le_of_ble_eq_true rfl) ⟨by decide, by decide⟩ ⟨Nat.zero_le _, Nat.zero_le _⟩ (k_V ?_)
  refine j_iload_n C dX5_mix_4 rfl ?_
  refine j_iconst C dX5_mix_5 (v := nI 0) (by decide) ?_
  refine j_iconst C dX5_mix_6 (v := nI 2) (by decide) ?_
  refine j_callS C (ct_needWithin (by omega) (by omega) (by omega)) dX5_mix_7 gX5_mix_X5_needWithin rfl ks_X5_needWithin rfl rfl (Nat.le_of_ble_eq_true rfl) ⟨by decide, by decide⟩ ⟨Nat.zero_le _, Nat.zero_le _⟩ (k_V ?_)
  refine j_iload_n C dX5_mix_10 rfl ?_
  refine j_iconst C dX5_mix_11 (v := nI 0) (by decide) ?_
  refine j_bipush C dX5_mix_12 (v := nI 9) (by decide) ?_
  exact j_callXS C hXw htab (tt_needWithin hl h) dX5_mix_14 gX5_mix_X5_needWithin rfl ks_X5_needWithin rfl rfl (Nat.le_of_ble_eq_true rfl) ⟨by decide, by decide⟩ ⟨by decide, by decide⟩

set_option maxHeartbeats 4000000 in
set_option maxRecDepth 100000 in
theorem tt_painter_1 {l : Launch} {G : GG} {M : MM} (hl : l.stackTraces = false) {p k v : Int32} (h : inI p (nI 0) (nI 3) = false) : Tt l G yX5_painter wsX5_painter 1 ([.ref (G.2.2 72), .int (p), .int (k), .int (v)] : List Value) M "java/lang/IndexOutOfBoundsException" := by
  refine Tt.of (cc := cX5_painter) (maxL := 6) (ret := (some .int)) (lv := [(0, .ref (G.2.2 72)), (1, .int (p)), (2, .int (k)), (3, .int (v))]) (by decide) rfl rfl (Nat.le_of_ble_eq_true rfl) ?_
  intro pg ev sg mm bl mt cd AZ C hXw htab
  refine j_iload_n C dX5_painter_0 rfl ?_
  exact j_callXS C hXw htab (tt_needPainter hl h) dX5_painter_1 gX5_painter_X5_needPainter rfl ks_X5_needPainter rfl rfl (Nat.le_of_ble_eq_true rfl) ⟨by decide, by decide⟩ ⟨by decide, by decide⟩

set_option maxHeartbeats 4000000 in
set_option maxRecDepth 100000 in
theorem tt_painter_2 {l : Launch} {G : GG} {M : MM} (hl : l.stackTraces = false) {p : Nat} (hp : p < 4) {k v : Int32} (h : inI k (nI 0) (nI 1) = false) : Tt l G yX5_painter wsX5_painter 1 ([.ref (G.2.2 72), .int (nI p), .int (k), .int (v)] : List Value) M "java/lang/IllegalArgumentException" := by
  refine Tt.of (cc := cX5_painter) (maxL := 6) (ret := (some .int)) (lv := [(0, .ref (G.2.2 72)), (1, .int (nI p)), (2, .int (k)), (3, .int (v))]) (by decide) rfl rfl (Nat.le_of_ble_eq_true rfl) ?_
  intro pg ev sg mm bl mt cd AZ C hXw htab
  refine j_iload_n C dX5_painter_0 rfl ?_
  refine j_callS C (ct_needPainter (by omega)) dX5_painter_1 gX5_painter_X5_needPainter rfl ks_X5_needPainter rfl rfl (Nat.le_of_ble_eq_true rfl) ⟨by decide, by decide⟩ ⟨Nat.zero_le _, Nat.zero_le _⟩ (k_V ?_)
  refine j_iload_n C dX5_painter_4 rfl ?_
  refine j_iconst C dX5_painter_5 (v := nI 0) (by decide) ?_
  refine j_iconst C dX5_painter_6 (v := nI 1) (by decide) ?_
  exact j_callXS C hXw htab (tt_needWithin hl h) dX5_painter_7 gX5_painter_X5_needWithin rfl ks_X5_needWithin rfl rfl (Nat.le_of_ble_eq_true rfl) ⟨by decide, by decide⟩ ⟨by decide, by decide⟩

set_option maxHeartbeats 4000000 in
set_option maxRecDepth 100000 in
theorem tt_painter_3 {l : Launch} {G : GG} {M : MM} (hl : l.stackTraces = false) {p : Nat} (hp : p < 4) {v : Int32} (h : inI v (nI 0) (nI 3) = false) : Tt l G yX5_painter wsX5_painter 1 ([.ref (G.2.2 72), .int (nI p), .int (nI 0), .int (v)] : List Value) M "java/lang/IllegalArgumentException" := by
  refine Tt.of (cc := cX5_painter) (maxL := 6) (ret := (some .int)) (lv := [(0, .ref (G.2.2 72)), (1, .int (nI p)), (2, .int (nI 0)), (3, .int (v))]) (by decide) rfl rfl (Nat.le_of_ble_eq_true rfl) ?_
  intro pg ev sg mm bl mt cd AZ C hXw htab
  refine j_iload_n C dX5_painter_0 rfl ?_
  refine j_callS C (ct_needPainter (by omega)) dX5_painter_1 gX5_painter_X5_needPainter rfl ks_X5_needPainter rfl rfl (Nat.le_of_ble_eq_true rfl) ⟨by decide, by decide⟩ ⟨Nat.zero_le _, Nat.zero_le _⟩ (k_V ?_)
  refine j_iload_n C dX5_painter_4 rfl ?_
  refine j_iconst C dX5_painter_5 (v := nI 0) (by decide) ?_
  refine j_iconst C dX5_painter_6 (v := nI 1) (by decide) ?_
  refine j_callS C (ct_needWithin (by omega) (by omega) (by omega)) dX5_painter_7 gX5_painter_X5_needWithin rfl ks_X5_needWithin rfl rfl (Nat.le_of_ble_eq_true rfl) ⟨by decide, by decide⟩ ⟨Nat.zero_le _, Nat.zero_le _⟩ (k_V ?_)
  refine j_iload_n C dX5_painter_10 rfl ?_
  refine j_iconst C dX5_painter_11 (v := nI 0) (by decide) ?_
  refine j_iload_n C dX5_painter_12 rfl ?_
  refine j_if_neN C dX5_painter_13 (tgt := 20) (by decide) (by omega) (fun cq13 => absurd cq13 (by decide)) (fun cq13 => ?_)
  refine j_iconst C dX5_painter_16 (v := nI 3) (by decide) ?_
  refine j_goto C dX5_painter_17 (tgt := 22) (by decide) ?_
  exact j_callXS C hXw htab (tt_needWithin hl h) dX5_painter_22 gX5_painter_X5_needWithin rfl ks_X5_needWithin rfl rfl (Nat.le_of_ble_eq_true rfl) ⟨by decide, by decide⟩ ⟨by decide, by decide⟩

set_option maxHeartbeats 4000000 in
set_option maxRecDepth 100000 in
theorem tt_painter_4 {l : Launch} {G : GG} {M : MM} (hl : l.stackTraces = false) {p : Nat} (hp : p < 4) {v : Int32} (h : inI v (nI 0) (nI 27) = false) : Tt l G yX5_painter wsX5_painter 1 ([.ref (G.2.2 72), .int (nI p), .int (nI 1), .int (v)] : List Value) M "java/lang/IllegalArgumentException" := by
  refine Tt.of (cc := cX5_painter) (maxL := 6) (ret := (some .int)) (lv := [(0, .ref (G.2.2 72)), (1, .int (nI p)), (2, .int (nI 1)), (3, .int (v))]) (by decide) rfl rfl (Nat.le_of_ble_eq_true rfl) ?_
  intro pg ev sg mm bl mt cd AZ C hXw htab
  refine j_iload_n C dX5_painter_0 rfl ?_
  refine j_callS C (ct_needPainter (by omega)) dX5_painter_1 gX5_painter_X5_needPainter rfl ks_X5_needPainter rfl rfl (Nat.le_of_ble_eq_true rfl) ⟨by decide, by decide⟩ ⟨Nat.zero_le _, Nat.zero_le _⟩ (k_V ?_)
  refine j_iload_n C dX5_painter_4 rfl ?_
  refine j_iconst C dX5_painter_5 (v := nI 0) (by decide) ?_
  refine j_iconst C dX5_painter_6 (v := nI 1) (by decide) ?_
  refine j_callS C (ct_needWithin (by omega) (by omega) (by omega)) dX5_painter_7 gX5_painter_X5_needWithin rfl ks_X5_needWithin rfl rfl (Nat.le_of_ble_eq_true rfl) ⟨by decide, by decide⟩ ⟨Nat.zero_le _, Nat.zero_le _⟩ (k_V ?_)
  refine j_iload_n C dX5_painter_10 rfl ?_
  refine j_iconst C dX5_painter_11 (v := nI 0) (by decide) ?_
  refine j_iload_n C dX5_painter_12 rfl ?_
  refine j_if_neN C dX5_painter_13 (tgt := 20) (by decide) (by omega) (fun cq13 => ?_) (fun cq13 => absurd cq13 (by decide))
  refine j_bipush C dX5_painter_20 (v := nI 27) (by decide) ?_
  exact j_callXS C hXw htab (tt_needWithin hl h) dX5_painter_22 gX5_painter_X5_needWithin rfl ks_X5_needWithin rfl rfl (Nat.le_of_ble_eq_true rfl) ⟨by decide, by decide⟩ ⟨by decide, by decide⟩

set_option maxHeartbeats 4000000 in
set_option maxRecDepth 100000 in
theorem tt_borrow_1 {l : Launch} {G : GG} {M : MM} (hl : l.stackTraces = false) {p q : Int32} (h : inI p (nI 0) (nI 3) = false) : Tt l G yX5_borrow wsX5_borrow 1 ([.ref (G.2.2 72), .int (p), .int (q)] : List Value) M "java/lang/IndexOutOfBoundsException" := by
  refine Tt.of (cc := cX5_borrow) (maxL := 4) (ret := (some .int)) (lv := [(0, .ref (G.2.2 72)), (1, .int (p)), (2, .int (q))]) (by decide) rfl rfl (Nat.le_of_ble_eq_true rfl) ?_
  intro pg ev sg mm bl mt cd AZ C hXw htab
  refine j_iload_n C dX5_borrow_0 rfl ?_
  exact j_callXS C hXw htab (tt_needPainter hl h) dX5_borrow_1 gX5_borrow_X5_needPainter rfl ks_X5_needPainter rfl rfl (Nat.le_of_ble_eq_true rfl) ⟨by decide, by decide⟩ ⟨by decide, by decide⟩

set_option maxHeartbeats 4000000 in
set_option maxRecDepth 100000 in
theorem tt_borrow_2 {l : Launch} {G : GG} {M : MM} (hl : l.stackTraces = false) {p : Nat} (hp : p < 4) {q : Int32} (h : inI q (nI 0) (nI 3) = false) : Tt l G yX5_borrow wsX5_borrow 1 ([.ref (G.2.2 72), .int (nI p), .int (q)] : List Value) M "java/lang/IndexOutOfBoundsException" := by
  refine Tt.of (cc := cX5_borrow) (maxL := 4) (ret := (some .int)) (lv := [(0, .ref (G.2.2 72)), (1, .int (nI p)), (2, .int (q))]) (by decide) rfl rfl (Nat.le_of_ble_eq_true rfl) ?_
  intro pg ev sg mm bl mt cd AZ C hXw htab
  refine j_iload_n C dX5_borrow_0 rfl ?_
  refine j_callS C (ct_needPainter (by omega)) dX5_borrow_1 gX5_borrow_X5_needPainter rfl ks_X5_needPainter rfl rfl (Nat.le_of_ble_eq_true rfl) ⟨by decide, by decide⟩ ⟨Nat.zero_le _, Nat.zero_le _⟩ (k_V ?_)
  refine j_iload_n C dX5_borrow_4 rfl ?_
  exact j_callXS C hXw htab (tt_needPainter hl h) dX5_borrow_5 gX5_borrow_X5_needPainter rfl ks_X5_needPainter rfl rfl (Nat.le_of_ble_eq_true rfl) ⟨by decide, by decide⟩ ⟨by decide, by decide⟩

set_option maxHeartbeats 4000000 in
set_option maxRecDepth 100000 in
theorem tt_label_1 {l : Launch} {G : GG} {M : MM} (hl : l.stackTraces = false) {i v : Int32} (h : inI i (nI 0) (nI 7) = false) : Tt l G yX5_label wsX5_label 1 ([.ref (G.2.2 72), .int (i), .int (v)] : List Value) M "java/lang/IndexOutOfBoundsException" := by
  refine Tt.of (cc := cX5_label) (maxL := 4) (ret := (some .int)) (lv := [(0, .ref (G.2.2 72)), (1, .int (i)), (2, .int (v))]) (by decide) rfl rfl (Nat.le_of_ble_eq_true rfl) ?_
  intro pg ev sg mm bl mt cd AZ C hXw htab
  refine j_iload_n C dX5_label_0 rfl ?_
  exact j_callXS C hXw htab (tt_needPot hl h) dX5_label_1 gX5_label_X5_needPot rfl ks_X5_needPot rfl rfl (Nat.le_of_ble_eq_true rfl) ⟨by decide, by decide⟩ ⟨by decide, by decide⟩

set_option maxHeartbeats 4000000 in
set_option maxRecDepth 100000 in
theorem tt_label_2 {l : Launch} {G : GG} {M : MM} (hl : l.stackTraces = false) {i : Nat} (hi : i < 8) {v : Int32} (h : inI v (-1) (nI 7) = false) : Tt l G yX5_label wsX5_label 1 ([.ref (G.2.2 72), .int (nI i), .int (v)] : List Value) M "java/lang/IllegalArgumentException" := by
  refine Tt.of (cc := cX5_label) (maxL := 4) (ret := (some .int)) (lv := [(0, .ref (G.2.2 72)), (1, .int (nI i)), (2, .int (v))]) (by decide) rfl rfl (Nat.le_of_ble_eq_true rfl) ?_
  intro pg ev sg mm bl mt cd AZ C hXw htab
  refine j_iload_n C dX5_label_0 rfl ?_
  refine j_callS C (ct_needPot (by omega)) dX5_label_1 gX5_label_X5_needPot rfl ks_X5_needPot rfl rfl (Nat.le_of_ble_eq_true rfl) ⟨by decide, by decide⟩ ⟨Nat.zero_le _, Nat.zero_le _⟩ (k_V ?_)
  refine j_iload_n C dX5_label_4 rfl ?_
  refine j_iconst C dX5_label_5 (v := -1) (by decide) ?_
  refine j_bipush C dX5_label_6 (v := nI 7) (by decide) ?_
  exact j_callXS C hXw htab (tt_needWithin hl h) dX5_label_8 gX5_label_X5_needWithin rfl ks_X5_needWithin rfl rfl (Nat.le_of_ble_eq_true rfl) ⟨by decide, by decide⟩ ⟨by decide, by decide⟩

set_option maxHeartbeats 4000000 in
set_option maxRecDepth 100000 in
theorem tt_labelAll_1 {l : Launch} {G : GG} {M : MM} (hl : l.stackTraces = false) {p : Int32} (h : inI p (nI 0) (nI 3) = false) : Tt l G yX5_labelAll wsX5_labelAll 1 ([.ref (G.2.2 72), .int (p)] : List Value) M "java/lang/IndexOutOfBoundsException" := by
  refine Tt.of (cc := cX5_labelAll) (maxL := 2) (ret := (some .int)) (lv := [(0, .ref (G.2.2 72)), (1, .int (p))]) (by decide) rfl rfl (Nat.le_of_ble_eq_true rfl) ?_
  intro pg ev sg mm bl mt cd AZ C hXw htab
  refine j_iload_n C dX5_labelAll_0 rfl ?_
  exact j_callXS C hXw htab (tt_needPainter hl h) dX5_labelAll_1 gX5_labelAll_X5_needPainter rfl ks_X5_needPainter rfl rfl (Nat.le_of_ble_eq_true rfl) ⟨by decide, by decide⟩ ⟨by decide, by decide⟩

set_option maxHeartbeats 4000000 in
set_option maxRecDepth 100000 in
theorem tt_hang_1 {l : Launch} {G : GG} {M : MM} (hl : l.stackTraces = false) {i j : Int32} (h : inI i (nI 0) (nI 7) = false) : Tt l G yX5_hang wsX5_hang 1 ([.ref (G.2.2 72), .int (i), .int (j)] : List Value) M "java/lang/IndexOutOfBoundsException" := by
  refine Tt.of (cc := cX5_hang) (maxL := 3) (ret := (some .int)) (lv := [(0, .ref (G.2.2 72)), (1, .int (i)), (2, .int (j))]) (by decide) rfl rfl (Nat.le_of_ble_eq_true rfl) ?_
  intro pg ev sg mm bl mt cd AZ C hXw htab
  refine j_iload_n C dX5_hang_0 rfl ?_
  exact j_callXS C hXw htab (tt_needPot hl h) dX5_hang_1 gX5_hang_X5_needPot rfl ks_X5_needPot rfl rfl (Nat.le_of_ble_eq_true rfl) ⟨by decide, by decide⟩ ⟨by decide, by decide⟩

set_option maxHeartbeats 4000000 in
set_option maxRecDepth 100000 in
theorem tt_hang_2 {l : Launch} {G : GG} {M : MM} (hl : l.stackTraces = false) {i : Nat} (hi : i < 8) {j : Int32} (h : inI j (nI 0) (nI 7) = false) : Tt l G yX5_hang wsX5_hang 1 ([.ref (G.2.2 72), .int (nI i), .int (j)] : List Value) M "java/lang/IndexOutOfBoundsException" := by
  refine Tt.of (cc := cX5_hang) (maxL := 3) (ret := (some .int)) (lv := [(0, .ref (G.2.2 72)), (1, .int (nI i)), (2, .int (j))]) (by decide) rfl rfl (Nat.le_of_ble_eq_true rfl) ?_
  intro pg ev sg mm bl mt cd AZ C hXw htab
  refine j_iload_n C dX5_hang_0 rfl ?_
  refine j_callS C (ct_needPot (by omega)) dX5_hang_1 gX5_hang_X5_needPot rfl ks_X5_needPot rfl rfl (Nat.le_of_ble_eq_true rfl) ⟨by decide, by decide⟩ ⟨Nat.zero_le _, Nat.zero_le _⟩ (k_V ?_)
  refine j_iload_n C dX5_hang_4 rfl ?_
  exact j_callXS C hXw htab (tt_needPot hl h) dX5_hang_5 gX5_hang_X5_needPot rfl ks_X5_needPot rfl rfl (Nat.le_of_ble_eq_true rfl) ⟨by decide, by decide⟩ ⟨by decide, by decide⟩

set_option maxHeartbeats 4000000 in
set_option maxRecDepth 100000 in
theorem tt_hang_3 {l : Launch} {G : GG} {M : MM} (hl : l.stackTraces = false) {i : Nat} (hi : i < 8) : Tt l G yX5_hang wsX5_hang 1 ([.ref (G.2.2 72), .int (nI i), .int (nI i)] : List Value) M "java/lang/IllegalArgumentException" := by
  refine Tt.of (cc := cX5_hang) (maxL := 3) (ret := (some .int)) (lv := [(0, .ref (G.2.2 72)), (1, .int (nI i)), (2, .int (nI i))]) (by decide) rfl rfl (Nat.le_of_ble_eq_true rfl) ?_
  intro pg ev sg mm bl mt cd AZ C hXw htab
  refine j_iload_n C dX5_hang_0 rfl ?_
  refine j_callS C (ct_needPot (by omega)) dX5_hang_1 gX5_hang_X5_needPot rfl ks_X5_needPot rfl rfl (Nat.le_of_ble_eq_true rfl) ⟨by decide, by decide⟩ ⟨Nat.zero_le _, Nat.zero_le _⟩ (k_V ?_)
  refine j_iload_n C dX5_hang_4 rfl ?_
  refine j_callS C (ct_needPot (by omega)) dX5_hang_5 gX5_hang_X5_needPot rfl ks_X5_needPot rfl rfl (Nat.le_of_ble_eq_true rfl) ⟨by decide, by decide⟩ ⟨Nat.zero_le _, Nat.zero_le _⟩ (k_V ?_)
  refine j_iload_n C dX5_hang_8 rfl ?_
  refine j_iload_n C dX5_hang_9 rfl ?_
  exact j_callXS C hXw htab (tt_needUnlike hl) dX5_hang_10 gX5_hang_X5_needUnlike rfl ks_X5_needUnlike rfl rfl (Nat.le_of_ble_eq_true rfl) ⟨by decide, by decide⟩ ⟨by decide, by decide⟩

set_option maxHeartbeats 4000000 in
set_option maxRecDepth 100000 in
theorem tt_takeDown_1 {l : Launch} {G : GG} {M : MM} (hl : l.stackTraces = false) {S : SS} (hX : Xc M S) (hO : OkS S) {c : Int32} (h : inI c (nI 0) (nI (S.1 44) - nI 1) = false) : Tt l G yX5_takeDown wsX5_takeDown 1 ([.ref (G.2.2 72), .int (c)] : List Value) M "java/lang/IndexOutOfBoundsException" := by
  have hB := hX.1
  have hW := hO.1
  have h44 := hW.2.2.1
  refine Tt.of (cc := cX5_takeDown) (maxL := 3) (ret := (some .int)) (lv := [(0, .ref (G.2.2 72)), (1, .int (c))]) (by decide) rfl rfl (Nat.le_of_ble_eq_true rfl) ?_
  intro pg ev sg mm bl mt cd AZ C hXw htab
  refine j_aload_n C dX5_takeDown_0 rfl ?_
  refine j_iload_n C dX5_takeDown_1 rfl ?_
  exact j_callXV C hXw htab (tt_needChart hl hX h44 h) dX5_takeDown_2 rfl (by decide) (T := TX5) rfl gX5_takeDown_X5_needChart rfl kd_X5_needChart rfl rfl (Nat.le_of_ble_eq_true rfl) ⟨by decide, by decide⟩ ⟨by decide, by decide⟩

set_option maxHeartbeats 4000000 in
set_option maxRecDepth 100000 in
theorem tt_correct_1 {l : Launch} {G : GG} {M : MM} (hl : l.stackTraces = false) {S : SS} (hX : Xc M S) (hO : OkS S) {c p : Int32} (h : inI c (nI 0) (nI (S.1 44) - nI 1) = false) : Tt l G yX5_correct wsX5_correct 1 ([.ref (G.2.2 72), .int (c), .int (p)] : List Value) M "java/lang/IndexOutOfBoundsException" := by
  have hB := hX.1
  have hW := hO.1
  have h44 := hW.2.2.1
  refine Tt.of (cc := cX5_correct) (maxL := 3) (ret := (some .int)) (lv := [(0, .ref (G.2.2 72)), (1, .int (c)), (2, .int (p))]) (by decide) rfl rfl (Nat.le_of_ble_eq_true rfl) ?_
  intro pg ev sg mm bl mt cd AZ C hXw htab
  refine j_aload_n C dX5_correct_0 rfl ?_
  refine j_iload_n C dX5_correct_1 rfl ?_
  exact j_callXV C hXw htab (tt_needChart hl hX h44 h) dX5_correct_2 rfl (by decide) (T := TX5) rfl gX5_correct_X5_needChart rfl kd_X5_needChart rfl rfl (Nat.le_of_ble_eq_true rfl) ⟨by decide, by decide⟩ ⟨by decide, by decide⟩

set_option maxHeartbeats 4000000 in
set_option maxRecDepth 100000 in
theorem tt_correct_2 {l : Launch} {G : GG} {M : MM} (hl : l.stackTraces = false) {S : SS} (hX : Xc M S) (hO : OkS S) {ch : Nat} (hc : ch < S.1 44) {p : Int32} (h : inI p (nI 0) (nI 3) = false) : Tt l G yX5_correct wsX5_correct 2 ([.ref (G.2.2 72), .int (nI ch), .int (p)] : List Value) M "java/lang/IndexOutOfBoundsException" := by
  have hB := hX.1
  have hW := hO.1
  have h44 := hW.2.2.1
  refine Tt.of (cc := cX5_correct) (maxL := 3) (ret := (some .int)) (lv := [(0, .ref (G.2.2 72)), (1, .int (nI ch)), (2, .int (p))]) (by decide) rfl rfl (Nat.le_of_ble_eq_true rfl) ?_
  intro pg ev sg mm bl mt cd AZ C hXw htab
  refine j_aload_n C dX5_correct_0 rfl ?_
  refine j_iload_n C dX5_correct_1 rfl ?_
  refine j_callV C (ct_needChart hX (by omega) (by omega)) dX5_correct_2 rfl (by decide) (T := TX5) rfl gX5_correct_X5_needChart rfl kd_X5_needChart rfl rfl (Nat.le_of_ble_eq_true rfl) ⟨by decide, by decide⟩ ⟨Nat.zero_le _, Nat.zero_le _⟩ (k_V ?_)
  refine j_iload_n C dX5_correct_5 rfl ?_
  exact j_callXS C hXw htab (tt_needPainter hl h) dX5_correct_6 gX5_correct_X5_needPainter rfl ks_X5_needPainter rfl rfl (Nat.le_of_ble_eq_true rfl) ⟨by decide, by decide⟩ ⟨by decide, by decide⟩

set_option maxHeartbeats 4000000 in
set_option maxRecDepth 100000 in
theorem tt_append_1 {l : Launch} {G : GG} {M : MM} (hl : l.stackTraces = false) {v : Int32} (h : inI v (nI 33) (nI 126) = false) : Tt l G yX5_append wsX5_append 1 ([.ref (G.2.2 72), .int (v)] : List Value) M "java/lang/IllegalArgumentException" := by
  refine Tt.of (cc := cX5_append) (maxL := 2) (ret := (some .int)) (lv := [(0, .ref (G.2.2 72)), (1, .int (v))]) (by decide) rfl rfl (Nat.le_of_ble_eq_true rfl) ?_
  intro pg ev sg mm bl mt cd AZ C hXw htab
  refine j_iload_n C dX5_append_0 rfl ?_
  refine j_bipush C dX5_append_1 (v := nI 33) (by decide) ?_
  refine j_bipush C dX5_append_3 (v := nI 126) (by decide) ?_
  exact j_callXS C hXw htab (tt_needWithin hl h) dX5_append_5 gX5_append_X5_needWithin rfl ks_X5_needWithin rfl rfl (Nat.le_of_ble_eq_true rfl) ⟨by decide, by decide⟩ ⟨by decide, by decide⟩

set_option maxHeartbeats 4000000 in
set_option maxRecDepth 100000 in
theorem tt_append_2 {l : Launch} {G : GG} {M : MM} (hl : l.stackTraces = false) {S : SS} (hX : Xc M S) (hO : OkS S) {k : Nat} (h1 : 33 ≤ k) (h2 : k ≤ 126) (hn : 60 ≤ S.2.2.2.2.2.1) : Tt l G yX5_append wsX5_append 1 ([.ref (G.2.2 72), .int (nI k)] : List Value) M "java/lang/IllegalStateException" := by
  have hB := hX.1
  have hW := hO.1
  have h44 := hW.2.2.1
  refine Tt.of (cc := cX5_append) (maxL := 2) (ret := (some .int)) (lv := [(0, .ref (G.2.2 72)), (1, .int (nI k))]) (by decide) rfl rfl (Nat.le_of_ble_eq_true rfl) ?_
  intro pg ev sg mm bl mt cd AZ C hXw htab
  refine j_iload_n C dX5_append_0 rfl ?_
  refine j_bipush C dX5_append_1 (v := nI 33) (by decide) ?_
  refine j_bipush C dX5_append_3 (v := nI 126) (by decide) ?_
  refine j_callS C (ct_needWithin (by omega) (by omega) (by omega)) dX5_append_5 gX5_append_X5_needWithin rfl ks_X5_needWithin rfl rfl (Nat.le_of_ble_eq_true rfl) ⟨by decide, by decide⟩ ⟨Nat.zero_le _, Nat.zero_le _⟩ (k_V ?_)
  refine j_aload_n C dX5_append_8 rfl ?_
  refine j_getf C dX5_append_9 rfl (by decide) (T := TX5) rfl in_X5_append_X5 (k := 2) (by decide) fl_X5_append_26 rfl rfl ?_
  refine j_callV C (ct_isFull hX.2.2.2.2.1) dX5_append_12 rfl (by decide) (T := TX4) rfl gX5_append_X4_isFull rfl kd_X4_isFull rfl rfl (Nat.le_of_ble_eq_true rfl) ⟨by decide, by decide⟩ ⟨Nat.zero_le _, Nat.zero_le _⟩ (k_I ?_)
  refine j_if_eqB C dX5_append_15 (tgt := 28) (by decide) (fun cq15 => absurd cq15 (by rw [decide_eq_true hn]; decide)) (fun cq15 => ?_)
  exact j_throwS C hXw htab hl (text := "the buffer is full") thw_X5_append_114 (by decide +kernel) dX5_append_18 dX5_append_21 dX5_append_22 dX5_append_24 dX5_append_27 ⟨by decide, by decide, by decide, by decide⟩

set_option maxHeartbeats 4000000 in
set_option maxRecDepth 100000 in
theorem tt_load_1 {l : Launch} {G : GG} {M : MM} (hl : l.stackTraces = false) {S : SS} (hX : Xc M S) (hO : OkS S) (ht : tpT S.2.2.2.2.2.1 S.2.2.2.2.2.2 = false) : Tt l G yX5_load wsX5_load 2 ([.ref (G.2.2 72)] : List Value) M "java/lang/IllegalArgumentException" := by
  have hB := hX.1
  have hW := hO.1
  have h44 := hW.2.2.1
  refine Tt.of (cc := cX5_load) (maxL := 1) (ret := (some .int)) (lv := [(0, .ref (G.2.2 72))]) (by decide) rfl rfl (Nat.le_of_ble_eq_true rfl) ?_
  intro pg ev sg mm bl mt cd AZ C hXw htab
  refine j_aload_n C dX5_load_0 rfl ?_
  refine j_getf C dX5_load_1 rfl (by decide) (T := TX5) rfl in_X5_load_X5 (k := 2) (by decide) fl_X5_load_26 rfl rfl ?_
  refine j_callV C (ct_tellsPots hX.2.2.2.2.1) dX5_load_4 rfl (by decide) (T := TX4) rfl gX5_load_X4_tellsPots rfl kd_X4_tellsPots rfl rfl (Nat.le_of_ble_eq_true rfl) ⟨by decide, by decide⟩ ⟨Nat.zero_le _, Nat.zero_le _⟩ (k_I ?_)
  refine j_if_neB C dX5_load_7 (tgt := 20) (by decide) (fun cq7 => absurd cq7 (by rw [ht]; decide)) (fun cq7 => ?_)
  exact j_throwS C hXw htab hl (text := "the buffer does not tell pots as a text") thw_X5_load_137 (by decide +kernel) dX5_load_10 dX5_load_13 dX5_load_14 dX5_load_16 dX5_load_19 ⟨by decide, by decide, by decide, by decide⟩

set_option maxHeartbeats 4000000 in
set_option maxRecDepth 100000 in
theorem tt_keep_1 {l : Launch} {G : GG} {M : MM} (hl : l.stackTraces = false) {v : Int32} (h : inI v (nI 0) (nI 1) = false) : Tt l G yX5_keep wsX5_keep 1 ([.ref (G.2.2 72), .int (v)] : List Value) M "java/lang/IllegalArgumentException" := by
  refine Tt.of (cc := cX5_keep) (maxL := 2) (ret := (some .int)) (lv := [(0, .ref (G.2.2 72)), (1, .int (v))]) (by decide) rfl rfl (Nat.le_of_ble_eq_true rfl) ?_
  intro pg ev sg mm bl mt cd AZ C hXw htab
  refine j_iload_n C dX5_keep_0 rfl ?_
  refine j_iconst C dX5_keep_1 (v := nI 0) (by decide) ?_
  refine j_iconst C dX5_keep_2 (v := nI 1) (by decide) ?_
  exact j_callXS C hXw htab (tt_needWithin hl h) dX5_keep_3 gX5_keep_X5_needWithin rfl ks_X5_needWithin rfl rfl (Nat.le_of_ble_eq_true rfl) ⟨by decide, by decide⟩ ⟨by decide, by decide⟩

set_option maxHeartbeats 4000000 in
set_option maxRecDepth 100000 in
theorem tt_goBack_1 {l : Launch} {G : GG} {M : MM} (hl : l.stackTraces = false) {v : Int32} (h : inI v (nI 0) (nI 1) = false) : Tt l G yX5_goBack wsX5_goBack 1 ([.ref (G.2.2 72), .int (v)] : List Value) M "java/lang/IllegalArgumentException" := by
  refine Tt.of (cc := cX5_goBack) (maxL := 2) (ret := (some .int)) (lv := [(0, .ref (G.2.2 72)), (1, .int (v))]) (by decide) rfl rfl (Nat.le_of_ble_eq_true rfl) ?_
  intro pg ev sg mm bl mt cd AZ C hXw htab
  refine j_iload_n C dX5_goBack_0 rfl ?_
  refine j_iconst C dX5_goBack_1 (v := nI 0) (by decide) ?_
  refine j_iconst C dX5_goBack_2 (v := nI 1) (by decide) ?_
  exact j_callXS C hXw htab (tt_needWithin hl h) dX5_goBack_3 gX5_goBack_X5_needWithin rfl ks_X5_needWithin rfl rfl (Nat.le_of_ble_eq_true rfl) ⟨by decide, by decide⟩ ⟨by decide, by decide⟩

set_option maxHeartbeats 4000000 in
set_option maxRecDepth 100000 in
theorem tt_goBack_2 {l : Launch} {G : GG} {M : MM} (hl : l.stackTraces = false) {S : SS} (hX : Xc M S) (hO : OkS S) {sl : Nat} (hs : sl < 2) (hf : S.2.2.2.2.1 sl = false) : Tt l G yX5_goBack wsX5_goBack 1 ([.ref (G.2.2 72), .int (nI sl)] : List Value) M "java/lang/IllegalStateException" := by
  have hB := hX.1
  have hW := hO.1
  have h44 := hW.2.2.1
  refine Tt.of (cc := cX5_goBack) (maxL := 2) (ret := (some .int)) (lv := [(0, .ref (G.2.2 72)), (1, .int (nI sl))]) (by decide) rfl rfl (Nat.le_of_ble_eq_true rfl) ?_
  intro pg ev sg mm bl mt cd AZ C hXw htab
  refine j_iload_n C dX5_goBack_0 rfl ?_
  refine j_iconst C dX5_goBack_1 (v := nI 0) (by decide) ?_
  refine j_iconst C dX5_goBack_2 (v := nI 1) (by decide) ?_
  refine j_callS C (ct_needWithin (by omega) (by omega) (by omega)) dX5_goBack_3 gX5_goBack_X5_needWithin rfl ks_X5_needWithin rfl rfl (Nat.le_of_ble_eq_true rfl) ⟨by decide, by decide⟩ ⟨Nat.zero_le _, Nat.zero_le _⟩ (k_V ?_)
  refine j_aload_n C dX5_goBack_6 rfl ?_
  refine j_getf C dX5_goBack_7 rfl (by decide) (T := TX5) rfl in_X5_goBack_X5 (k := 1) (by decide) fl_X5_goBack_19 rfl rfl ?_
  refine j_getfN C dX5_goBack_10 rfl (by decide) (T := TX3) rfl in_X5_goBack_X3 (k := 1) (by decide) nl_X5_155 rfl rfl ?_
  refine j_iload_n C dX5_goBack_13 rfl ?_
  refine j_zaldN C dX5_goBack_14 rfl (by omega) (by decide) ?_
  refine j_top C _ (hX.2.2.1 _ (by omega)) ?_
  refine j_if_neB C dX5_goBack_15 (tgt := 28) (by decide) (fun cq15 => absurd cq15 (by rw [hf]; decide)) (fun cq15 => ?_)
  exact j_throwS C hXw htab hl (text := "there is no snapshot in the slot") thw_X5_goBack_114 (by decide +kernel) dX5_goBack_18 dX5_goBack_21 dX5_goBack_22 dX5_goBack_24 dX5_goBack_27 ⟨by decide, by decide, by decide, by decide⟩

set_option maxHeartbeats 4000000 in
set_option maxRecDepth 100000 in
theorem tt_undo_1 {l : Launch} {G : GG} {M : MM} (hl : l.stackTraces = false) {S : SS} (hX : Xc M S) (hO : OkS S) (h0 : S.2.1 = 0) : Tt l G yX5_undo wsX5_undo 1 ([.ref (G.2.2 72)] : List Value) M "java/lang/IllegalStateException" := by
  have hB := hX.1
  have hW := hO.1
  have h44 := hW.2.2.1
  have h6 := hX.2.1.1
  refine Tt.of (cc := cX5_undo) (maxL := 1) (ret := (some .int)) (lv := [(0, .ref (G.2.2 72))]) (by decide) rfl rfl (Nat.le_of_ble_eq_true rfl) ?_
  intro pg ev sg mm bl mt cd AZ C hXw htab
  refine j_aload_n C dX5_undo_0 rfl ?_
  refine j_getf C dX5_undo_1 rfl (by decide) (T := TX5) rfl in_X5_undo_X5 (k := 1) (by decide) fl_X5_undo_19 rfl rfl ?_
  refine j_getfN C dX5_undo_4 rfl (by decide) (T := TX3) rfl in_X5_undo_X3 (k := 3) (by decide) nl_X5_164 rfl rfl ?_
  refine j_top C (_) hX.2.1.2.1 ?_
  refine j_if_gtN C dX5_undo_7 (tgt := 20) (by decide) (by omega) (fun cq7 => absurd cq7 (by omega)) (fun cq7 => ?_)
  exact j_throwS C hXw htab hl (text := "there is no saved state") thw_X5_undo_114 (by decide +kernel) dX5_undo_10 dX5_undo_13 dX5_undo_14 dX5_undo_16 dX5_undo_19 ⟨by decide, by decide, by decide, by decide⟩

set_option maxHeartbeats 4000000 in
set_option maxRecDepth 100000 in
theorem tt_potOf_1 {l : Launch} {G : GG} {M : MM} (hl : l.stackTraces = false) {i k : Int32} (h : inI i (nI 0) (nI 7) = false) : Tt l G yX5_potOf wsX5_potOf 1 ([.ref (G.2.2 72), .int (i), .int (k)] : List Value) M "java/lang/IndexOutOfBoundsException" := by
  refine Tt.of (cc := cX5_potOf) (maxL := 3) (ret := (some .int)) (lv := [(0, .ref (G.2.2 72)), (1, .int (i)), (2, .int (k))]) (by decide) rfl rfl (Nat.le_of_ble_eq_true rfl) ?_
  intro pg ev sg mm bl mt cd AZ C hXw htab
  refine j_iload_n C dX5_potOf_0 rfl ?_
  exact j_callXS C hXw htab (tt_needPot hl h) dX5_potOf_1 gX5_potOf_X5_needPot rfl ks_X5_needPot rfl rfl (Nat.le_of_ble_eq_true rfl) ⟨by decide, by decide⟩ ⟨by decide, by decide⟩

set_option maxHeartbeats 4000000 in
set_option maxRecDepth 100000 in
theorem tt_potOf_2 {l : Launch} {G : GG} {M : MM} (hl : l.stackTraces = false) {i : Nat} (hi : i < 8) {k : Int32} (h : inI k (nI 0) (nI 4) = false) : Tt l G yX5_potOf wsX5_potOf 1 ([.ref (G.2.2 72), .int (nI i), .int (k)] : List Value) M "java/lang/IllegalArgumentException" := by
  refine Tt.of (cc := cX5_potOf) (maxL := 3) (ret := (some .int)) (lv := [(0, .ref (G.2.2 72)), (1, .int (nI i)), (2, .int (k))]) (by decide) rfl rfl (Nat.le_of_ble_eq_true rfl) ?_
  intro pg ev sg mm bl mt cd AZ C hXw htab
  refine j_iload_n C dX5_potOf_0 rfl ?_
  refine j_callS C (ct_needPot (by omega)) dX5_potOf_1 gX5_potOf_X5_needPot rfl ks_X5_needPot rfl rfl (Nat.le_of_ble_eq_true rfl) ⟨by decide, by decide⟩ ⟨Nat.zero_le _, Nat.zero_le _⟩ (k_V ?_)
  refine j_iload_n C dX5_potOf_4 rfl ?_
  refine j_iconst C dX5_potOf_5 (v := nI 0) (by decide) ?_
  refine j_iconst C dX5_potOf_6 (v := nI 4) (by decide) ?_
  exact j_callXS C hXw htab (tt_needWithin hl h) dX5_potOf_7 gX5_potOf_X5_needWithin rfl ks_X5_needWithin rfl rfl (Nat.le_of_ble_eq_true rfl) ⟨by decide, by decide⟩ ⟨by decide, by decide⟩

set_option maxHeartbeats 4000000 in
set_option maxRecDepth 100000 in
theorem tt_seen_1 {l : Launch} {G : GG} {M : MM} (hl : l.stackTraces = false) {p i : Int32} (h : inI p (nI 0) (nI 3) = false) : Tt l G yX5_seen wsX5_seen 1 ([.ref (G.2.2 72), .int (p), .int (i)] : List Value) M "java/lang/IndexOutOfBoundsException" := by
  refine Tt.of (cc := cX5_seen) (maxL := 3) (ret := (some .int)) (lv := [(0, .ref (G.2.2 72)), (1, .int (p)), (2, .int (i))]) (by decide) rfl rfl (Nat.le_of_ble_eq_true rfl) ?_
  intro pg ev sg mm bl mt cd AZ C hXw htab
  refine j_iload_n C dX5_seen_0 rfl ?_
  exact j_callXS C hXw htab (tt_needPainter hl h) dX5_seen_1 gX5_seen_X5_needPainter rfl ks_X5_needPainter rfl rfl (Nat.le_of_ble_eq_true rfl) ⟨by decide, by decide⟩ ⟨by decide, by decide⟩

set_option maxHeartbeats 4000000 in
set_option maxRecDepth 100000 in
theorem tt_seen_2 {l : Launch} {G : GG} {M : MM} (hl : l.stackTraces = false) {p : Nat} (hp : p < 4) {i : Int32} (h : inI i (nI 0) (nI 7) = false) : Tt l G yX5_seen wsX5_seen 1 ([.ref (G.2.2 72), .int (nI p), .int (i)] : List Value) M "java/lang/IndexOutOfBoundsException" := by
  refine Tt.of (cc := cX5_seen) (maxL := 3) (ret := (some .int)) (lv := [(0, .ref (G.2.2 72)), (1, .int (nI p)), (2, .int (i))]) (by decide) rfl rfl (Nat.le_of_ble_eq_true rfl) ?_
  intro pg ev sg mm bl mt cd AZ C hXw htab
  refine j_iload_n C dX5_seen_0 rfl ?_
  refine j_callS C (ct_needPainter (by omega)) dX5_seen_1 gX5_seen_X5_needPainter rfl ks_X5_needPainter rfl rfl (Nat.le_of_ble_eq_true rfl) ⟨by decide, by decide⟩ ⟨Nat.zero_le _, Nat.zero_le _⟩ (k_V ?_)
  refine j_iload_n C dX5_seen_4 rfl ?_
  exact j_callXS C hXw htab (tt_needPot hl h) dX5_seen_5 gX5_seen_X5_needPot rfl ks_X5_needPot rfl rfl (Nat.le_of_ble_eq_true rfl) ⟨by decide, by decide⟩ ⟨by decide, by decide⟩

set_option maxHeartbeats 4000000 in
set_option maxRecDepth 100000 in
theorem tt_painterOf_1 {l : Launch} {G : GG} {M : MM} (hl : l.stackTraces = false) {p k : Int32} (h : inI p (nI 0) (nI 3) = false) : Tt l G yX5_painterOf wsX5_painterOf 1 ([.ref (G.2.2 72), .int (p), .int (k)] : List Value) M "java/lang/IndexOutOfBoundsException" := by
  refine Tt.of (cc := cX5_painterOf) (maxL := 3) (ret := (some .int)) (lv := [(0, .ref (G.2.2 72)), (1, .int (p)), (2, .int (k))]) (by decide) rfl rfl (Nat.le_of_ble_eq_true rfl) ?_
  intro pg ev sg mm bl mt cd AZ C hXw htab
  refine j_iload_n C dX5_painterOf_0 rfl ?_
  exact j_callXS C hXw htab (tt_needPainter hl h) dX5_painterOf_1 gX5_painterOf_X5_needPainter rfl ks_X5_needPainter rfl rfl (Nat.le_of_ble_eq_true rfl) ⟨by decide, by decide⟩ ⟨by decide, by decide⟩

set_option maxHeartbeats 4000000 in
set_option maxRecDepth 100000 in
theorem tt_painterOf_2 {l : Launch} {G : GG} {M : MM} (hl : l.stackTraces = false) {p : Nat} (hp : p < 4) {k : Int32} (h : inI k (nI 0) (nI 6) = false) : Tt l G yX5_painterOf wsX5_painterOf 1 ([.ref (G.2.2 72), .int (nI p), .int (k)] : List Value) M "java/lang/IllegalArgumentException" := by
  refine Tt.of (cc := cX5_painterOf) (maxL := 3) (ret := (some .int)) (lv := [(0, .ref (G.2.2 72)), (1, .int (nI p)), (2, .int (k))]) (by decide) rfl rfl (Nat.le_of_ble_eq_true rfl) ?_
  intro pg ev sg mm bl mt cd AZ C hXw htab
  refine j_iload_n C dX5_painterOf_0 rfl ?_
  refine j_callS C (ct_needPainter (by omega)) dX5_painterOf_1 gX5_painterOf_X5_needPainter rfl ks_X5_needPainter rfl rfl (Nat.le_of_ble_eq_true rfl) ⟨by decide, by decide⟩ ⟨Nat.zero_le _, Nat.zero_le _⟩ (k_V ?_)
  refine j_iload_n C dX5_painterOf_4 rfl ?_
  refine j_tableOut C dX5_painterOf_5 (tgt := 131) (tb_out (n := 6) h (by decide)) (by decide) ?_
  exact j_throwS C hXw htab hl (text := "a painter has the numbers 0 to 6") thw_X5_painterOf_137 (by decide +kernel) dX5_painterOf_131 dX5_painterOf_134 dX5_painterOf_135 dX5_painterOf_137 dX5_painterOf_140 ⟨by decide, by decide, by decide, by decide⟩

set_option maxHeartbeats 4000000 in
set_option maxRecDepth 100000 in
theorem tt_apart_1 {l : Launch} {G : GG} {M : MM} (hl : l.stackTraces = false) {p i j : Int32} (h : inI p (nI 0) (nI 3) = false) : Tt l G yX5_apart wsX5_apart 1 ([.ref (G.2.2 72), .int (p), .int (i), .int (j)] : List Value) M "java/lang/IndexOutOfBoundsException" := by
  refine Tt.of (cc := cX5_apart) (maxL := 4) (ret := (some .int)) (lv := [(0, .ref (G.2.2 72)), (1, .int (p)), (2, .int (i)), (3, .int (j))]) (by decide) rfl rfl (Nat.le_of_ble_eq_true rfl) ?_
  intro pg ev sg mm bl mt cd AZ C hXw htab
  refine j_iload_n C dX5_apart_0 rfl ?_
  exact j_callXS C hXw htab (tt_needPainter hl h) dX5_apart_1 gX5_apart_X5_needPainter rfl ks_X5_needPainter rfl rfl (Nat.le_of_ble_eq_true rfl) ⟨by decide, by decide⟩ ⟨by decide, by decide⟩

set_option maxHeartbeats 4000000 in
set_option maxRecDepth 100000 in
theorem tt_apart_2 {l : Launch} {G : GG} {M : MM} (hl : l.stackTraces = false) {p : Nat} (hp : p < 4) {i j : Int32} (h : inI i (nI 0) (nI 7) = false) : Tt l G yX5_apart wsX5_apart 1 ([.ref (G.2.2 72), .int (nI p), .int (i), .int (j)] : List Value) M "java/lang/IndexOutOfBoundsException" := by
  refine Tt.of (cc := cX5_apart) (maxL := 4) (ret := (some .int)) (lv := [(0, .ref (G.2.2 72)), (1, .int (nI p)), (2, .int (i)), (3, .int (j))]) (by decide) rfl rfl (Nat.le_of_ble_eq_true rfl) ?_
  intro pg ev sg mm bl mt cd AZ C hXw htab
  refine j_iload_n C dX5_apart_0 rfl ?_
  refine j_callS C (ct_needPainter (by omega)) dX5_apart_1 gX5_apart_X5_needPainter rfl ks_X5_needPainter rfl rfl (Nat.le_of_ble_eq_true rfl) ⟨by decide, by decide⟩ ⟨Nat.zero_le _, Nat.zero_le _⟩ (k_V ?_)
  refine j_iload_n C dX5_apart_4 rfl ?_
  exact j_callXS C hXw htab (tt_needPot hl h) dX5_apart_5 gX5_apart_X5_needPot rfl ks_X5_needPot rfl rfl (Nat.le_of_ble_eq_true rfl) ⟨by decide, by decide⟩ ⟨by decide, by decide⟩

set_option maxHeartbeats 4000000 in
set_option maxRecDepth 100000 in
theorem tt_apart_3 {l : Launch} {G : GG} {M : MM} (hl : l.stackTraces = false) {p i : Nat} (hp : p < 4) (hi : i < 8) {j : Int32} (h : inI j (nI 0) (nI 7) = false) : Tt l G yX5_apart wsX5_apart 1 ([.ref (G.2.2 72), .int (nI p), .int (nI i), .int (j)] : List Value) M "java/lang/IndexOutOfBoundsException" := by
  refine Tt.of (cc := cX5_apart) (maxL := 4) (ret := (some .int)) (lv := [(0, .ref (G.2.2 72)), (1, .int (nI p)), (2, .int (nI i)), (3, .int (j))]) (by decide) rfl rfl (Nat.le_of_ble_eq_true rfl) ?_
  intro pg ev sg mm bl mt cd AZ C hXw htab
  refine j_iload_n C dX5_apart_0 rfl ?_
  refine j_callS C (ct_needPainter (by omega)) dX5_apart_1 gX5_apart_X5_needPainter rfl ks_X5_needPainter rfl rfl (Nat.le_of_ble_eq_true rfl) ⟨by decide, by decide⟩ ⟨Nat.zero_le _, Nat.zero_le _⟩ (k_V ?_)
  refine j_iload_n C dX5_apart_4 rfl ?_
  refine j_callS C (ct_needPot (by omega)) dX5_apart_5 gX5_apart_X5_needPot rfl ks_X5_needPot rfl rfl (Nat.le_of_ble_eq_true rfl) ⟨by decide, by decide⟩ ⟨Nat.zero_le _, Nat.zero_le _⟩ (k_V ?_)
  refine j_iload_n C dX5_apart_8 rfl ?_
  exact j_callXS C hXw htab (tt_needPot hl h) dX5_apart_9 gX5_apart_X5_needPot rfl ks_X5_needPot rfl rfl (Nat.le_of_ble_eq_true rfl) ⟨by decide, by decide⟩ ⟨by decide, by decide⟩

set_option maxHeartbeats 4000000 in
set_option maxRecDepth 100000 in
theorem tt_chartOf_1 {l : Launch} {G : GG} {M : MM} (hl : l.stackTraces = false) {S : SS} (hX : Xc M S) (hO : OkS S) {c k : Int32} (h : inI c (nI 0) (nI (S.1 44) - nI 1) = false) : Tt l G yX5_chartOf wsX5_chartOf 1 ([.ref (G.2.2 72), .int (c), .int (k)] : List Value) M "java/lang/IndexOutOfBoundsException" := by
  have hB := hX.1
  have hW := hO.1
  have h44 := hW.2.2.1
  refine Tt.of (cc := cX5_chartOf) (maxL := 3) (ret := (some .int)) (lv := [(0, .ref (G.2.2 72)), (1, .int (c)), (2, .int (k))]) (by decide) rfl rfl (Nat.le_of_ble_eq_true rfl) ?_
  intro pg ev sg mm bl mt cd AZ C hXw htab
  refine j_aload_n C dX5_chartOf_0 rfl ?_
  refine j_iload_n C dX5_chartOf_1 rfl ?_
  exact j_callXV C hXw htab (tt_needChart hl hX h44 h) dX5_chartOf_2 rfl (by decide) (T := TX5) rfl gX5_chartOf_X5_needChart rfl kd_X5_needChart rfl rfl (Nat.le_of_ble_eq_true rfl) ⟨by decide, by decide⟩ ⟨by decide, by decide⟩

set_option maxHeartbeats 4000000 in
set_option maxRecDepth 100000 in
theorem tt_chartOf_2 {l : Launch} {G : GG} {M : MM} (hl : l.stackTraces = false) {S : SS} (hX : Xc M S) (hO : OkS S) {ch : Nat} (hc : ch < S.1 44) {k : Int32} (h : inI k (nI 0) (nI 2) = false) : Tt l G yX5_chartOf wsX5_chartOf 2 ([.ref (G.2.2 72), .int (nI ch), .int (k)] : List Value) M "java/lang/IllegalArgumentException" := by
  have hB := hX.1
  have hW := hO.1
  have h44 := hW.2.2.1
  refine Tt.of (cc := cX5_chartOf) (maxL := 3) (ret := (some .int)) (lv := [(0, .ref (G.2.2 72)), (1, .int (nI ch)), (2, .int (k))]) (by decide) rfl rfl (Nat.le_of_ble_eq_true rfl) ?_
  intro pg ev sg mm bl mt cd AZ C hXw htab
  refine j_aload_n C dX5_chartOf_0 rfl ?_
  refine j_iload_n C dX5_chartOf_1 rfl ?_
  refine j_callV C (ct_needChart hX (by omega) (by omega)) dX5_chartOf_2 rfl (by decide) (T := TX5) rfl gX5_chartOf_X5_needChart rfl kd_X5_needChart rfl rfl (Nat.le_of_ble_eq_true rfl) ⟨by decide, by decide⟩ ⟨Nat.zero_le _, Nat.zero_le _⟩ (k_V ?_)
  refine j_iload_n C dX5_chartOf_5 rfl ?_
  refine j_tableOut C dX5_chartOf_6 (tgt := 61) (tb_out (n := 2) h (by decide)) (by decide) ?_
  exact j_throwS C hXw htab hl (text := "a chart has the numbers 0 to 2") thw_X5_chartOf_137 (by decide +kernel) dX5_chartOf_61 dX5_chartOf_64 dX5_chartOf_65 dX5_chartOf_67 dX5_chartOf_70 ⟨by decide, by decide, by decide, by decide⟩

set_option maxHeartbeats 4000000 in
set_option maxRecDepth 100000 in
theorem tt_count_1 {l : Launch} {G : GG} {M : MM} (hl : l.stackTraces = false) {k : Int32} (h : inI k (nI 0) (nI 7) = false) : Tt l G yX5_count wsX5_count 1 ([.ref (G.2.2 72), .int (k)] : List Value) M "java/lang/IllegalArgumentException" := by
  refine Tt.of (cc := cX5_count) (maxL := 2) (ret := (some .int)) (lv := [(0, .ref (G.2.2 72)), (1, .int (k))]) (by decide) rfl rfl (Nat.le_of_ble_eq_true rfl) ?_
  intro pg ev sg mm bl mt cd AZ C hXw htab
  refine j_iload_n C dX5_count_0 rfl ?_
  refine j_tableOut C dX5_count_1 (tgt := 112) (tb_out (n := 7) h (by decide)) (by decide) ?_
  exact j_throwS C hXw htab hl (text := "there are the numbers 0 to 7") thw_X5_count_137 (by decide +kernel) dX5_count_112 dX5_count_115 dX5_count_116 dX5_count_118 dX5_count_121 ⟨by decide, by decide, by decide, by decide⟩

set_option maxHeartbeats 4000000 in
set_option maxRecDepth 100000 in
theorem tt_fewest_1 {l : Launch} {G : GG} {M : MM} (hl : l.stackTraces = false) {p k : Int32} (h : inI p (nI 0) (nI 3) = false) : Tt l G yX5_fewest wsX5_fewest 1 ([.ref (G.2.2 72), .int (p), .int (k)] : List Value) M "java/lang/IndexOutOfBoundsException" := by
  refine Tt.of (cc := cX5_fewest) (maxL := 3) (ret := (some .int)) (lv := [(0, .ref (G.2.2 72)), (1, .int (p)), (2, .int (k))]) (by decide) rfl rfl (Nat.le_of_ble_eq_true rfl) ?_
  intro pg ev sg mm bl mt cd AZ C hXw htab
  refine j_iload_n C dX5_fewest_0 rfl ?_
  exact j_callXS C hXw htab (tt_needPainter hl h) dX5_fewest_1 gX5_fewest_X5_needPainter rfl ks_X5_needPainter rfl rfl (Nat.le_of_ble_eq_true rfl) ⟨by decide, by decide⟩ ⟨by decide, by decide⟩

set_option maxHeartbeats 4000000 in
set_option maxRecDepth 100000 in
theorem tt_fewest_2 {l : Launch} {G : GG} {M : MM} (hl : l.stackTraces = false) {p : Nat} (hp : p < 4) {k : Int32} (h : inI k (nI 0) (nI 1) = false) : Tt l G yX5_fewest wsX5_fewest 1 ([.ref (G.2.2 72), .int (nI p), .int (k)] : List Value) M "java/lang/IllegalArgumentException" := by
  refine Tt.of (cc := cX5_fewest) (maxL := 3) (ret := (some .int)) (lv := [(0, .ref (G.2.2 72)), (1, .int (nI p)), (2, .int (k))]) (by decide) rfl rfl (Nat.le_of_ble_eq_true rfl) ?_
  intro pg ev sg mm bl mt cd AZ C hXw htab
  refine j_iload_n C dX5_fewest_0 rfl ?_
  refine j_callS C (ct_needPainter (by omega)) dX5_fewest_1 gX5_fewest_X5_needPainter rfl ks_X5_needPainter rfl rfl (Nat.le_of_ble_eq_true rfl) ⟨by decide, by decide⟩ ⟨Nat.zero_le _, Nat.zero_le _⟩ (k_V ?_)
  refine j_iload_n C dX5_fewest_4 rfl ?_
  refine j_iconst C dX5_fewest_5 (v := nI 0) (by decide) ?_
  refine j_iconst C dX5_fewest_6 (v := nI 1) (by decide) ?_
  exact j_callXS C hXw htab (tt_needWithin hl h) dX5_fewest_7 gX5_fewest_X5_needWithin rfl ks_X5_needWithin rfl rfl (Nat.le_of_ble_eq_true rfl) ⟨by decide, by decide⟩ ⟨by decide, by decide⟩

set_option maxHeartbeats 4000000 in
set_option maxRecDepth 100000 in
theorem tt_ifBorrowed_1 {l : Launch} {G : GG} {M : MM} (hl : l.stackTraces = false) {p q : Int32} (h : inI p (nI 0) (nI 3) = false) : Tt l G yX5_ifBorrowed wsX5_ifBorrowed 1 ([.ref (G.2.2 72), .int (p), .int (q)] : List Value) M "java/lang/IndexOutOfBoundsException" := by
  refine Tt.of (cc := cX5_ifBorrowed) (maxL := 3) (ret := (some .int)) (lv := [(0, .ref (G.2.2 72)), (1, .int (p)), (2, .int (q))]) (by decide) rfl rfl (Nat.le_of_ble_eq_true rfl) ?_
  intro pg ev sg mm bl mt cd AZ C hXw htab
  refine j_iload_n C dX5_ifBorrowed_0 rfl ?_
  exact j_callXS C hXw htab (tt_needPainter hl h) dX5_ifBorrowed_1 gX5_ifBorrowed_X5_needPainter rfl ks_X5_needPainter rfl rfl (Nat.le_of_ble_eq_true rfl) ⟨by decide, by decide⟩ ⟨by decide, by decide⟩

set_option maxHeartbeats 4000000 in
set_option maxRecDepth 100000 in
theorem tt_ifBorrowed_2 {l : Launch} {G : GG} {M : MM} (hl : l.stackTraces = false) {p : Nat} (hp : p < 4) {q : Int32} (h : inI q (nI 0) (nI 3) = false) : Tt l G yX5_ifBorrowed wsX5_ifBorrowed 1 ([.ref (G.2.2 72), .int (nI p), .int (q)] : List Value) M "java/lang/IndexOutOfBoundsException" := by
  refine Tt.of (cc := cX5_ifBorrowed) (maxL := 3) (ret := (some .int)) (lv := [(0, .ref (G.2.2 72)), (1, .int (nI p)), (2, .int (q))]) (by decide) rfl rfl (Nat.le_of_ble_eq_true rfl) ?_
  intro pg ev sg mm bl mt cd AZ C hXw htab
  refine j_iload_n C dX5_ifBorrowed_0 rfl ?_
  refine j_callS C (ct_needPainter (by omega)) dX5_ifBorrowed_1 gX5_ifBorrowed_X5_needPainter rfl ks_X5_needPainter rfl rfl (Nat.le_of_ble_eq_true rfl) ⟨by decide, by decide⟩ ⟨Nat.zero_le _, Nat.zero_le _⟩ (k_V ?_)
  refine j_iload_n C dX5_ifBorrowed_4 rfl ?_
  exact j_callXS C hXw htab (tt_needPainter hl h) dX5_ifBorrowed_5 gX5_ifBorrowed_X5_needPainter rfl ks_X5_needPainter rfl rfl (Nat.le_of_ble_eq_true rfl) ⟨by decide, by decide⟩ ⟨by decide, by decide⟩

set_option maxHeartbeats 4000000 in
set_option maxRecDepth 100000 in
theorem tt_leastChange_1 {l : Launch} {G : GG} {M : MM} (hl : l.stackTraces = false) {p i j : Int32} (h : inI p (nI 0) (nI 3) = false) : Tt l G yX5_leastChange wsX5_leastChange 1 ([.ref (G.2.2 72), .int (p), .int (i), .int (j)] : List Value) M "java/lang/IndexOutOfBoundsException" := by
  refine Tt.of (cc := cX5_leastChange) (maxL := 5) (ret := (some .int)) (lv := [(0, .ref (G.2.2 72)), (1, .int (p)), (2, .int (i)), (3, .int (j))]) (by decide) rfl rfl (Nat.le_of_ble_eq_true rfl) ?_
  intro pg ev sg mm bl mt cd AZ C hXw htab
  refine j_iload_n C dX5_leastChange_0 rfl ?_
  exact j_callXS C hXw htab (tt_needPainter hl h) dX5_leastChange_1 gX5_leastChange_X5_needPainter rfl ks_X5_needPainter rfl rfl (Nat.le_of_ble_eq_true rfl) ⟨by decide, by decide⟩ ⟨by decide, by decide⟩

set_option maxHeartbeats 4000000 in
set_option maxRecDepth 100000 in
theorem tt_leastChange_2 {l : Launch} {G : GG} {M : MM} (hl : l.stackTraces = false) {p : Nat} (hp : p < 4) {i j : Int32} (h : inI i (nI 0) (nI 7) = false) : Tt l G yX5_leastChange wsX5_leastChange 1 ([.ref (G.2.2 72), .int (nI p), .int (i), .int (j)] : List Value) M "java/lang/IndexOutOfBoundsException" := by
  refine Tt.of (cc := cX5_leastChange) (maxL := 5) (ret := (some .int)) (lv := [(0, .ref (G.2.2 72)), (1, .int (nI p)), (2, .int (i)), (3, .int (j))]) (by decide) rfl rfl (Nat.le_of_ble_eq_true rfl) ?_
  intro pg ev sg mm bl mt cd AZ C hXw htab
  refine j_iload_n C dX5_leastChange_0 rfl ?_
  refine j_callS C (ct_needPainter (by omega)) dX5_leastChange_1 gX5_leastChange_X5_needPainter rfl ks_X5_needPainter rfl rfl (Nat.le_of_ble_eq_true rfl) ⟨by decide, by decide⟩ ⟨Nat.zero_le _, Nat.zero_le _⟩ (k_V ?_)
  refine j_iload_n C dX5_leastChange_4 rfl ?_
  exact j_callXS C hXw htab (tt_needPot hl h) dX5_leastChange_5 gX5_leastChange_X5_needPot rfl ks_X5_needPot rfl rfl (Nat.le_of_ble_eq_true rfl) ⟨by decide, by decide⟩ ⟨by decide, by decide⟩

set_option maxHeartbeats 4000000 in
set_option maxRecDepth 100000 in
theorem tt_leastChange_3 {l : Launch} {G : GG} {M : MM} (hl : l.stackTraces = false) {p i : Nat} (hp : p < 4) (hi : i < 8) {j : Int32} (h : inI j (nI 0) (nI 7) = false) : Tt l G yX5_leastChange wsX5_leastChange 1 ([.ref (G.2.2 72), .int (nI p), .int (nI i), .int (j)] : List Value) M "java/lang/IndexOutOfBoundsException" := by
  refine Tt.of (cc := cX5_leastChange) (maxL := 5) (ret := (some .int)) (lv := [(0, .ref (G.2.2 72)), (1, .int (nI p)), (2, .int (nI i)), (3, .int (j))]) (by decide) rfl rfl (Nat.le_of_ble_eq_true rfl) ?_
  intro pg ev sg mm bl mt cd AZ C hXw htab
  refine j_iload_n C dX5_leastChange_0 rfl ?_
  refine j_callS C (ct_needPainter (by omega)) dX5_leastChange_1 gX5_leastChange_X5_needPainter rfl ks_X5_needPainter rfl rfl (Nat.le_of_ble_eq_true rfl) ⟨by decide, by decide⟩ ⟨Nat.zero_le _, Nat.zero_le _⟩ (k_V ?_)
  refine j_iload_n C dX5_leastChange_4 rfl ?_
  refine j_callS C (ct_needPot (by omega)) dX5_leastChange_5 gX5_leastChange_X5_needPot rfl ks_X5_needPot rfl rfl (Nat.le_of_ble_eq_true rfl) ⟨by decide, by decide⟩ ⟨Nat.zero_le _, Nat.zero_le _⟩ (k_V ?_)
  refine j_iload_n C dX5_leastChange_8 rfl ?_
  exact j_callXS C hXw htab (tt_needPot hl h) dX5_leastChange_9 gX5_leastChange_X5_needPot rfl ks_X5_needPot rfl rfl (Nat.le_of_ble_eq_true rfl) ⟨by decide, by decide⟩ ⟨by decide, by decide⟩

set_option maxHeartbeats 4000000 in
set_option maxRecDepth 100000 in
theorem tt_leastChange_4 {l : Launch} {G : GG} {M : MM} (hl : l.stackTraces = false) {p i : Nat} (hp : p < 4) (hi : i < 8) : Tt l G yX5_leastChange wsX5_leastChange 1 ([.ref (G.2.2 72), .int (nI p), .int (nI i), .int (nI i)] : List Value) M "java/lang/IllegalArgumentException" := by
  refine Tt.of (cc := cX5_leastChange) (maxL := 5) (ret := (some .int)) (lv := [(0, .ref (G.2.2 72)), (1, .int (nI p)), (2, .int (nI i)), (3, .int (nI i))]) (by decide) rfl rfl (Nat.le_of_ble_eq_true rfl) ?_
  intro pg ev sg mm bl mt cd AZ C hXw htab
  refine j_iload_n C dX5_leastChange_0 rfl ?_
  refine j_callS C (ct_needPainter (by omega)) dX5_leastChange_1 gX5_leastChange_X5_needPainter rfl ks_X5_needPainter rfl rfl (Nat.le_of_ble_eq_true rfl) ⟨by decide, by decide⟩ ⟨Nat.zero_le _, Nat.zero_le _⟩ (k_V ?_)
  refine j_iload_n C dX5_leastChange_4 rfl ?_
  refine j_callS C (ct_needPot (by omega)) dX5_leastChange_5 gX5_leastChange_X5_needPot rfl ks_X5_needPot rfl rfl (Nat.le_of_ble_eq_true rfl) ⟨by decide, by decide⟩ ⟨Nat.zero_le _, Nat.zero_le _⟩ (k_V ?_)
  refine j_iload_n C dX5_leastChange_8 rfl ?_
  refine j_callS C (ct_needPot (by omega)) dX5_leastChange_9 gX5_leastChange_X5_needPot rfl ks_X5_needPot rfl rfl (Nat.le_of_ble_eq_true rfl) ⟨by decide, by decide⟩ ⟨Nat.zero_le _, Nat.zero_le _⟩ (k_V ?_)
  refine j_iload_n C dX5_leastChange_12 rfl ?_
  refine j_iload_n C dX5_leastChange_13 rfl ?_
  exact j_callXS C hXw htab (tt_needUnlike hl) dX5_leastChange_14 gX5_leastChange_X5_needUnlike rfl ks_X5_needUnlike rfl rfl (Nat.le_of_ble_eq_true rfl) ⟨by decide, by decide⟩ ⟨by decide, by decide⟩

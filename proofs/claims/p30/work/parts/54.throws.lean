set_option maxRecDepth 20000 in
theorem thw_X5_needChart_298 : thW 298 302 "java/lang/IndexOutOfBoundsException" wsX5_needChart := ⟨by decide +kernel, by decide +kernel, by decide +kernel, by decide +kernel, by decide +kernel, by decide +kernel⟩
set_option maxHeartbeats 4000000 in
set_option maxRecDepth 100000 in
theorem tt_needChart {l : Launch} {G : GG} {M : MM} (hl : l.stackTraces = false) {S : SS} (hX : Xc M S) (h44 : S.1 44 ≤ 6) {c : Nat} (hc : S.1 44 ≤ c) (hc6 : c < 2 ^ 31) : Tt l G yX5_needChart wsX5_needChart 0 ([.ref (G.2.2 72), .int (nI c)] : List Value) M "java/lang/IndexOutOfBoundsException" := by
  have hB := hX.1
  refine Tt.of (cc := cX5_needChart) (maxL := 2) (ret := none) (lv := [(0, .ref (G.2.2 72)), (1, .int (nI c))]) (by decide) rfl rfl (Nat.le_of_ble_eq_true rfl) ?_
  intro pg ev sg mm bl mt cd AZ C hXw htab
  refine j_iload_n C dX5_needChart_0 rfl ?_
  refine j_if_lt C dX5_needChart_1 (tgt := 15) (by decide) (fun cq1 => ?_) (fun cq1 => ?_)
  · exact j_throwW C hXw htab hl (text := "there is no such chart") thw_X5_needChart_298 (by decide +kernel) dX5_needChart_15 dX5_needChart_18 dX5_needChart_19 dX5_needChart_22 dX5_needChart_25 ⟨by decide, by decide, by decide, by decide⟩
  · refine j_iload_n C dX5_needChart_4 rfl ?_
    refine j_aload_n C dX5_needChart_5 rfl ?_
    refine j_getf C dX5_needChart_6 rfl (by decide) (T := TX5) rfl in_X5_needChart_X5 (k := 0) (by decide) fl_X5_needChart_12 rfl rfl ?_
    refine j_getfN C dX5_needChart_9 (cell_B (b := 0) (by decide)) (by decide) (T := TX0) rfl in_X5_needChart_X0 (k := 7) (by decide) nl_X5_198 rfl rfl ?_
    refine j_top C (_) hB.2.2.2.2.2.2.2.1 ?_
    refine j_icmp_lt C dX5_needChart_12 (tgt := 26) (by decide) (fun cq12 => absurd ((nI_ltI hc6 (by omega)).mp cq12) (Nat.not_lt.mpr hc)) (fun cq12 => ?_)
    exact j_throwW C hXw htab hl (text := "there is no such chart") thw_X5_needChart_298 (by decide +kernel) dX5_needChart_15 dX5_needChart_18 dX5_needChart_19 dX5_needChart_22 dX5_needChart_25 ⟨by decide, by decide, by decide, by decide⟩
set_option maxHeartbeats 4000000 in
set_option maxRecDepth 100000 in
theorem tt_takeDown_1 {l : Launch} {G : GG} {M : MM} (hl : l.stackTraces = false) {S : SS} (hX : Xc M S) (hO : OkS S) {c : Nat} (hc : S.1 44 ≤ c) (hc6 : c < 2 ^ 31) : Tt l G yX5_takeDown wsX5_takeDown 1 ([.ref (G.2.2 72), .int (nI c)] : List Value) M "java/lang/IndexOutOfBoundsException" := by
  have hB := hX.1
  have hW := hO.1
  have h44 := hW.2.2.1
  refine Tt.of (cc := cX5_takeDown) (maxL := 3) (ret := (some .int)) (lv := [(0, .ref (G.2.2 72)), (1, .int (nI c))]) (by decide) rfl rfl (Nat.le_of_ble_eq_true rfl) ?_
  intro pg ev sg mm bl mt cd AZ C hXw htab
  refine j_aload_n C dX5_takeDown_0 rfl ?_
  refine j_iload_n C dX5_takeDown_1 rfl ?_
  exact j_callXV C hXw htab (tt_needChart hl hX h44 hc hc6) dX5_takeDown_2 rfl (by decide) (T := TX5) rfl gX5_takeDown_X5_needChart rfl kd_X5_needChart rfl rfl (Nat.le_of_ble_eq_true rfl) ⟨by decide, by decide⟩ ⟨by decide, by decide⟩
set_option maxHeartbeats 4000000 in
set_option maxRecDepth 100000 in
theorem tt_correct_1 {l : Launch} {G : GG} {M : MM} (hl : l.stackTraces = false) {S : SS} (hX : Xc M S) (hO : OkS S) {c : Nat} {p : Int32} (hc : S.1 44 ≤ c) (hc6 : c < 2 ^ 31) : Tt l G yX5_correct wsX5_correct 1 ([.ref (G.2.2 72), .int (nI c), .int (p)] : List Value) M "java/lang/IndexOutOfBoundsException" := by
  have hB := hX.1
  have hW := hO.1
  have h44 := hW.2.2.1
  refine Tt.of (cc := cX5_correct) (maxL := 3) (ret := (some .int)) (lv := [(0, .ref (G.2.2 72)), (1, .int (nI c)), (2, .int (p))]) (by decide) rfl rfl (Nat.le_of_ble_eq_true rfl) ?_
  intro pg ev sg mm bl mt cd AZ C hXw htab
  refine j_aload_n C dX5_correct_0 rfl ?_
  refine j_iload_n C dX5_correct_1 rfl ?_
  exact j_callXV C hXw htab (tt_needChart hl hX h44 hc hc6) dX5_correct_2 rfl (by decide) (T := TX5) rfl gX5_correct_X5_needChart rfl kd_X5_needChart rfl rfl (Nat.le_of_ble_eq_true rfl) ⟨by decide, by decide⟩ ⟨by decide, by decide⟩

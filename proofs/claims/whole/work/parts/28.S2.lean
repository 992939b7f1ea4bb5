/-! the literals: the members of String -/
def sch (i k : Nat) : Int32 := (sByt.getD i []).getD k 0 &&& 255
def semp (i : Nat) : Int32 := if ¬ nI (sLen.getD i 0) = 0 then 0 else 1
/-- where a byte is among the six of the kinds' letters, from a place on -/
def ixF (x : Int32) : Nat → Nat → Int32
  | 0, _ => -1
  | r + 1, k => if ¬ (sByt.getD 5 []).getD k 0 = x then ixF x r (k + 1) else nI k
theorem ixF_kind : ∀ j, j < 256 → ixF ((nI j).toInt8.toInt32) 6 0 = kindOfS (nI j) := by decide +kernel
set_option maxHeartbeats 4000000 in
set_option maxRecDepth 20000 in
theorem con_JS_isLatin1 (l : Launch) (Z : ZZ) (i : Nat) (hi : i < 6) : Con l Z yJS_isLatin1 cJS_isLatin1 1 (some .boolean) 0 [.ref (adK Z i)] ([]) (Fn (some (.int (1))) ([])) := by
  refine Con.of (by decide) (Nat.le_of_ble_eq_true rfl) (fun X hX hQ => ?_)
  show G X Z [] 0 [(0, .ref (adK Z i))] []
  refine g_getsI hX q_211 dJS_isLatin1_0 ?_
  refine g_if_eq hX 17 dJS_isLatin1_3 (by decide) (fun c_3 => absurd c_3 (by decide)) (fun c_3 => ?_)
  refine g_aload_n hX dJS_isLatin1_6 0 rfl ?_
  refine g_scod hX hi q_940 dJS_isLatin1_7 ?_
  refine g_if_ne hX 17 dJS_isLatin1_10 (by decide) (fun c_10 => absurd (rfl) c_10) (fun c_10 => ?_)
  refine g_iconst (v := 1) hX dJS_isLatin1_13 (by decide) ?_
  refine g_goto hX 18 dJS_isLatin1_14 (by decide) ?_
  exact r_zret hX hQ (rfl) dJS_isLatin1_18 rfl (⟨rfl, rfl⟩)
set_option maxHeartbeats 4000000 in
set_option maxRecDepth 20000 in
theorem con_JS_coder (l : Launch) (Z : ZZ) (i : Nat) (hi : i < 6) : Con l Z yJS_coder cJS_coder 1 (some .byte) 0 [.ref (adK Z i)] ([]) (Fn (some (.int (0))) ([])) := by
  refine Con.of (by decide) (Nat.le_of_ble_eq_true rfl) (fun X hX hQ => ?_)
  show G X Z [] 0 [(0, .ref (adK Z i))] []
  refine g_getsI hX q_211 dJS_coder_0 ?_
  refine g_if_eq hX 13 dJS_coder_3 (by decide) (fun c_3 => absurd c_3 (by decide)) (fun c_3 => ?_)
  refine g_aload_n hX dJS_coder_6 0 rfl ?_
  refine g_scod hX hi q_940 dJS_coder_7 ?_
  refine g_goto hX 14 dJS_coder_10 (by decide) ?_
  exact r_zret hX hQ (rfl) dJS_coder_14 rfl (⟨rfl, rfl⟩)
set_option maxHeartbeats 4000000 in
set_option maxRecDepth 20000 in
theorem con_JS_length (l : Launch) (Z : ZZ) (i : Nat) (hi : i < 6) : Con l Z yJS_length cJS_length 1 (some .int) 1 [.ref (adK Z i)] ([]) (Fn (some (.int (nI (sLen.getD i 0)))) ([])) := by
  refine Con.of (by decide) (Nat.le_of_ble_eq_true rfl) (fun X hX hQ => ?_)
  show G X Z [] 0 [(0, .ref (adK Z i))] []
  refine g_aload_n hX dJS_length_0 0 rfl ?_
  refine g_sval hX hi q_939 dJS_length_1 ?_
  refine g_slen hX hi dJS_length_4 ?_
  refine g_aload_n hX dJS_length_5 0 rfl ?_
  refine g_callT hX (con_JS_coder l Z i hi) mvJS_coder q_207 rfl (by decide) hi rfl rfl (Nat.le_of_ble_eq_true rfl) dJS_length_6 [] rfl rfl (g_fn (ws1 := []) (st1 := [.int 0, .int (nI (sLen.getD i 0))]) rfl rfl ?_)
  refine g_ishr (z := (nI (sLen.getD i 0))) hX dJS_length_9 (sb_shr0 _) ?_
  exact r_iret hX hQ dJS_length_10 rfl (⟨rfl, rfl⟩)
set_option maxHeartbeats 4000000 in
set_option maxRecDepth 20000 in
theorem con_JS_isEmpty (l : Launch) (Z : ZZ) (i : Nat) (hi : i < 6) : Con l Z yJS_isEmpty cJS_isEmpty 1 (some .boolean) 0 [.ref (adK Z i)] ([]) (Fn (some (.int (semp i))) ([])) := by
  refine Con.of (by decide) (Nat.le_of_ble_eq_true rfl) (fun X hX hQ => ?_)
  show G X Z [] 0 [(0, .ref (adK Z i))] []
  refine g_aload_n hX dJS_isEmpty_0 0 rfl ?_
  refine g_sval hX hi q_939 dJS_isEmpty_1 ?_
  refine g_slen hX hi dJS_isEmpty_4 ?_
  refine g_if_ne hX 12 dJS_isEmpty_5 (by decide) (fun c_5 => ?_) (fun c_5 => ?_)
  · refine g_iconst (v := 0) hX dJS_isEmpty_12 (by decide) ?_
    exact r_zret hX hQ (rfl) dJS_isEmpty_13 rfl (⟨congrArg some (congrArg Value.int (if_pos c_5).symm), rfl⟩)
  · refine g_iconst (v := 1) hX dJS_isEmpty_8 (by decide) ?_
    refine g_goto hX 13 dJS_isEmpty_9 (by decide) ?_
    exact r_zret hX hQ (rfl) dJS_isEmpty_13 rfl (⟨congrArg some (congrArg Value.int (if_neg (fun q => q c_5)).symm), rfl⟩)
set_option maxHeartbeats 4000000 in
set_option maxRecDepth 20000 in
theorem con_JP_checkIndex (l : Launch) (Z : ZZ) (j n : Nat) (hj : j < n) (hn : n < 2 ^ 31) (v9 : Value) (hv9 : v9 = .null ∨ ∃ t, v9 = .ref t) : Con l Z yJP_checkIndex cJP_checkIndex 3 (some .int) 0 [.int (nI j), .int (nI n), v9] ([]) (Fn (some (.int (nI j))) ([])) := by
  have hcat : v9.category = 1 := by rcases hv9 with rfl | ⟨t, rfl⟩ <;> rfl
  refine Con.of (by decide) (by rcases hv9 with rfl | ⟨t, rfl⟩ <;> exact Nat.le_of_ble_eq_true rfl)  (fun X hX hQ => ?_)
  show G X Z [] 0 [(0, .int (nI j)), (1, .int (nI n)), (2, v9)] []
  refine g_iload_n hX dJP_checkIndex_0 0 rfl ?_
  refine g_if_lt hX 9 dJP_checkIndex_1 (by decide) (fun c_1 => absurd c_1 (nI_pos (by omega))) (fun c_1 => ?_)
  refine g_iload_n hX dJP_checkIndex_4 0 rfl ?_
  refine g_iload_n hX dJP_checkIndex_5 1 rfl ?_
  refine g_icmp_lt hX 16 dJP_checkIndex_6 (by decide) (fun c_6 => ?_) (fun c_6 => absurd (nI_lt hj hn) c_6)
  refine g_iload_n hX dJP_checkIndex_16 0 rfl ?_
  exact r_iret hX hQ dJP_checkIndex_17 rfl (⟨rfl, rfl⟩)
set_option maxHeartbeats 4000000 in
set_option maxRecDepth 20000 in
theorem con_JS_checkIndex (l : Launch) (Z : ZZ) (j n : Nat) (hj : j < n) (hn : n < 2 ^ 31) : Con l Z yJS_checkIndex cJS_checkIndex 2 none 1 [.int (nI j), .int (nI n)] ([]) (Fn none ([])) := by
  refine Con.of (by decide) (Nat.le_of_ble_eq_true rfl) (fun X hX hQ => ?_)
  show G X Z [] 0 [(0, .int (nI j)), (1, .int (nI n))] []
  refine g_iload_n hX dJS_checkIndex_0 0 rfl ?_
  refine g_iload_n hX dJS_checkIndex_1 1 rfl ?_
  refine g_getsQ hX q_227 dJS_checkIndex_2 (fun v9 hv9 => ?_)
  refine g_callS hX (con_JP_checkIndex l Z j n hj hn v9 hv9) msJP_checkIndex q_229 rfl (by decide) rfl (Nat.le_of_ble_eq_true rfl) dJS_checkIndex_5 [] rfl rfl (g_fn (ws1 := []) (st1 := [.int (nI j)]) rfl rfl ?_)
  refine g_pop hX dJS_checkIndex_8 rfl ?_
  exact r_vret hX hQ dJS_checkIndex_9 rfl (⟨rfl, rfl⟩)
set_option maxHeartbeats 4000000 in
set_option maxRecDepth 20000 in
theorem con_JL_charAt (l : Launch) (Z : ZZ) (i j : Nat) (hi : i < 6) (hj : j < sLen.getD i 0) : Con l Z yJL_charAt cJL_charAt 2 (some .char) 2 [.ref (adV Z i), .int (nI j)] ([]) (Fn (some (.int (sch i j))) ([])) := by
  refine Con.of (by decide) (Nat.le_of_ble_eq_true rfl) (fun X hX hQ => ?_)
  show G X Z [] 0 [(0, .ref (adV Z i)), (1, .int (nI j))] []
  refine g_iload_n hX dJL_charAt_0 1 rfl ?_
  refine g_aload_n hX dJL_charAt_1 0 rfl ?_
  refine g_slen hX hi dJL_charAt_2 ?_
  refine g_callS hX (con_JS_checkIndex l Z j (sLen.getD i 0) hj (sLen_lt i hi)) msJS_checkIndex q_224 rfl (by decide) rfl (Nat.le_of_ble_eq_true rfl) dJL_charAt_3 [] rfl rfl (g_fn (ws1 := []) (st1 := []) rfl rfl ?_)
  refine g_aload_n hX dJL_charAt_6 0 rfl ?_
  refine g_iload_n hX dJL_charAt_7 1 rfl ?_
  refine g_sbald hX hi j (hj) (rfl) dJL_charAt_8 ?_
  refine g_sipush (v := 255) hX dJL_charAt_9 (by decide) ?_
  refine g_iand (z := (((sByt.getD i []).getD j 0) &&& 255)) hX dJL_charAt_12 (rfl) ?_
  refine g_i2c (z := (sch i j)) hX dJL_charAt_13 (sc_c2 _) ?_
  exact r_zret hX hQ (sc_nar _) dJL_charAt_14 rfl (⟨rfl, rfl⟩)
set_option maxHeartbeats 4000000 in
set_option maxRecDepth 20000 in
theorem con_JS_charAt (l : Launch) (Z : ZZ) (i j : Nat) (hi : i < 6) (hj : j < sLen.getD i 0) : Con l Z yJS_charAt cJS_charAt 2 (some .char) 3 [.ref (adK Z i), .int (nI j)] ([]) (Fn (some (.int (sch i j))) ([])) := by
  refine Con.of (by decide) (Nat.le_of_ble_eq_true rfl) (fun X hX hQ => ?_)
  show G X Z [] 0 [(0, .ref (adK Z i)), (1, .int (nI j))] []
  refine g_aload_n hX dJS_charAt_0 0 rfl ?_
  refine g_callT hX (con_JS_isLatin1 l Z i hi) mvJS_isLatin1 q_217 rfl (by decide) hi rfl rfl (Nat.le_of_ble_eq_true rfl) dJS_charAt_1 [] rfl rfl (g_fn (ws1 := []) (st1 := [.int 1]) rfl rfl ?_)
  refine g_if_eq hX 16 dJS_charAt_4 (by decide) (fun c_4 => absurd c_4 (by decide)) (fun c_4 => ?_)
  refine g_aload_n hX dJS_charAt_7 0 rfl ?_
  refine g_sval hX hi q_939 dJS_charAt_8 ?_
  refine g_iload_n hX dJS_charAt_11 1 rfl ?_
  refine g_callS hX (con_JL_charAt l Z i j hi hj) msJL_charAt q_221 rfl (by decide) rfl (Nat.le_of_ble_eq_true rfl) dJS_charAt_12 [] rfl rfl (g_fn (ws1 := []) (st1 := [.int (sch i j)]) rfl rfl ?_)
  exact r_zret hX hQ (sc_nar _) dJS_charAt_15 rfl (⟨rfl, rfl⟩)
set_option maxHeartbeats 4000000 in
set_option maxRecDepth 20000 in
theorem con_JL_canEncode (l : Launch) (Z : ZZ) (j : Nat) (hj : j < 256) : Con l Z yJL_canEncode cJL_canEncode 1 (some .boolean) 0 [.int (nI j)] ([]) (Fn (some (.int (1))) ([])) := by
  refine Con.of (by decide) (Nat.le_of_ble_eq_true rfl) (fun X hX hQ => ?_)
  show G X Z [] 0 [(0, .int (nI j))] []
  refine g_iload_n hX dJL_canEncode_0 0 rfl ?_
  refine g_if_lt hX 15 dJL_canEncode_1 (by decide) (fun c_1 => absurd c_1 (nI_pos (by omega))) (fun c_1 => ?_)
  refine g_iload_n hX dJL_canEncode_4 0 rfl ?_
  refine g_sipush (v := 255) hX dJL_canEncode_5 (by decide) ?_
  refine g_icmp_gt hX 15 dJL_canEncode_8 (by decide) (fun c_8 => absurd c_8 (nI_nlt (a := 255) (b := j) (by omega) (by decide))) (fun c_8 => ?_)
  refine g_iconst (v := 1) hX dJL_canEncode_11 (by decide) ?_
  refine g_goto hX 16 dJL_canEncode_12 (by decide) ?_
  exact r_zret hX hQ (rfl) dJL_canEncode_16 rfl (⟨rfl, rfl⟩)
set_option maxHeartbeats 4000000 in
set_option maxRecDepth 20000 in
theorem con_JL_indexOfChar (l : Launch) (Z : ZZ) (j : Nat) : Con l Z yJL_indexOfChar cJL_indexOfChar 6 (some .int) 0 [.ref (adV Z 5), .int (nI j), .int 0, .int (nI 6)] ([]) (Fn (some (.int (ixF ((nI j).toInt8.toInt32) 6 0))) ([])) := by
  refine Con.of (by decide) (Nat.le_of_ble_eq_true rfl) (fun X hX hQ => ?_)
  show G X Z [] 0 [(0, .ref (adV Z 5)), (1, .int (nI j)), (2, .int 0), (3, .int (nI 6))] []
  refine g_iload_n hX dJL_indexOfChar_0 1 rfl ?_
  refine g_i2b (z := ((nI j).toInt8.toInt32)) hX dJL_indexOfChar_1 (rfl) ?_
  refine g_istore (lv1 := [(0, .ref (adV Z 5)), (1, .int (nI j)), (2, .int 0), (3, .int (nI 6)), (4, .int ((nI j).toInt8.toInt32))]) hX dJL_indexOfChar_2 (by decide) [1, 2, 3, 4, 0] rfl ?_
  refine g_iload_n hX dJL_indexOfChar_4 2 rfl ?_
  refine g_istore (lv1 := [(0, .ref (adV Z 5)), (1, .int (nI j)), (2, .int 0), (3, .int (nI 6)), (4, .int ((nI j).toInt8.toInt32)), (5, .int 0)]) hX dJL_indexOfChar_5 (by decide) [1, 2, 3, 4, 5, 0] rfl ?_
  have hL_7 : ∀ i0, i0 ≤ 6 →  ixF ((nI j).toInt8.toInt32) (6 - i0) i0 = ixF ((nI j).toInt8.toInt32) 6 0 → G X Z ([]) 7 [(0, .ref (adV Z 5)), (1, .int (nI j)), (2, .int 0), (3, .int (nI 6)), (4, .int ((nI j).toInt8.toInt32)), (5, .int (nI i0))] [] := by
    refine loopUp _ 6 ?_ (fun i0 hi_i0 ih_i0 => ?_)
    · intro  hq_i0
      refine g_iload hX dJL_indexOfChar_7 5 rfl ?_
      refine g_iload_n hX dJL_indexOfChar_9 3 rfl ?_
      refine g_icmp_ge hX 31 dJL_indexOfChar_10 (by decide) (fun c_10 => ?_) (fun c_10 => absurd (nI_le (a := 6) (b := 6) (Nat.le_refl _) (by omega)) c_10)
      refine g_iconst (v := (-1)) hX dJL_indexOfChar_31 (by decide) ?_
      exact r_iret hX hQ dJL_indexOfChar_32 rfl (⟨by rw [← hq_i0]; rfl, rfl⟩)
    · intro  hq_i0
      refine g_iload hX dJL_indexOfChar_7 5 rfl ?_
      refine g_iload_n hX dJL_indexOfChar_9 3 rfl ?_
      refine g_icmp_ge hX 31 dJL_indexOfChar_10 (by decide) (fun c_10 => absurd c_10 (nI_ge (a := i0) (b := 6) hi_i0 (by omega))) (fun c_10 => ?_)
      refine g_aload_n hX dJL_indexOfChar_13 0 rfl ?_
      refine g_iload hX dJL_indexOfChar_14 5 rfl ?_
      refine g_sbald hX (by decide) i0 (hi_i0) (rfl) dJL_indexOfChar_16 ?_
      refine g_iload hX dJL_indexOfChar_17 4 rfl ?_
      refine g_icmp_ne hX 25 dJL_indexOfChar_19 (by decide) (fun c_19 => ?_) (fun c_19 => ?_)
      · refine g_iinc (v := (nI (i0 + 1))) (lv1 := [(0, .ref (adV Z 5)), (1, .int (nI j)), (2, .int 0), (3, .int (nI 6)), (4, .int ((nI j).toInt8.toInt32)), (5, .int (nI (i0 + 1)))]) hX dJL_indexOfChar_25 5 rfl (inc_nat _) (by decide) [1, 2, 3, 4, 5, 0] rfl ?_
        refine g_goto hX 7 dJL_indexOfChar_28 (by decide) ?_
        exact ih_i0  (by rw [← hq_i0, show 6 - i0 = (6 - (i0 + 1)) + 1 by omega, ixF, if_pos c_19])
      · refine g_iload hX dJL_indexOfChar_22 5 rfl ?_
        exact r_iret hX hQ dJL_indexOfChar_24 rfl (⟨by rw [← hq_i0, show 6 - i0 = (6 - (i0 + 1)) + 1 by omega, ixF, if_neg (fun q => q c_19)], rfl⟩)
  exact hL_7 0 (Nat.zero_le _)  (rfl)
set_option maxHeartbeats 4000000 in
set_option maxRecDepth 20000 in
theorem con_JL_indexOf (l : Launch) (Z : ZZ) (j : Nat) (hj : j < 256) : Con l Z yJL_indexOf cJL_indexOf 4 (some .int) 1 [.ref (adV Z 5), .int (nI j), .int 0, .int (nI 6)] ([]) (Fn (some (.int (kindOfS (nI j)))) ([])) := by
  refine Con.of (by decide) (Nat.le_of_ble_eq_true rfl) (fun X hX hQ => ?_)
  show G X Z [] 0 [(0, .ref (adV Z 5)), (1, .int (nI j)), (2, .int 0), (3, .int (nI 6))] []
  refine g_iload_n hX dJL_indexOf_0 1 rfl ?_
  refine g_callS hX (con_JL_canEncode l Z j hj) msJL_canEncode q_719 rfl (by decide) rfl (Nat.le_of_ble_eq_true rfl) dJL_indexOf_1 [] rfl rfl (g_fn (ws1 := []) (st1 := [.int 1]) rfl rfl ?_)
  refine g_if_ne hX 9 dJL_indexOf_4 (by decide) (fun c_4 => ?_) (fun c_4 => absurd c_4 (by decide))
  refine g_iload_n hX dJL_indexOf_9 2 rfl ?_
  refine g_iconst (v := 0) hX dJL_indexOf_10 (by decide) ?_
  refine g_mmax (z := 0) hX q_722 q_301 q_12 q_302 dJL_indexOf_11 (by decide) (Nat.le_of_ble_eq_true rfl) (by decide) ?_
  refine g_istore_n (lv1 := [(0, .ref (adV Z 5)), (1, .int (nI j)), (2, .int 0), (3, .int (nI 6))]) hX dJL_indexOf_14 (by decide) [1, 2, 0, 3] rfl ?_
  refine g_iload_n hX dJL_indexOf_15 3 rfl ?_
  refine g_aload_n hX dJL_indexOf_16 0 rfl ?_
  refine g_slen hX (by decide) dJL_indexOf_17 ?_
  refine g_mmin (z := (nI 6)) hX q_723 q_298 q_12 q_299 dJL_indexOf_18 (by decide) (Nat.le_of_ble_eq_true rfl) (by decide) ?_
  refine g_istore_n (lv1 := [(0, .ref (adV Z 5)), (1, .int (nI j)), (2, .int 0), (3, .int (nI 6))]) hX dJL_indexOf_21 (by decide) [1, 2, 3, 0] rfl ?_
  refine g_iload_n hX dJL_indexOf_22 2 rfl ?_
  refine g_iload_n hX dJL_indexOf_23 3 rfl ?_
  refine g_icmp_lt hX 29 dJL_indexOf_24 (by decide) (fun c_24 => ?_) (fun c_24 => absurd (by decide) c_24)
  refine g_aload_n hX dJL_indexOf_29 0 rfl ?_
  refine g_iload_n hX dJL_indexOf_30 1 rfl ?_
  refine g_iload_n hX dJL_indexOf_31 2 rfl ?_
  refine g_iload_n hX dJL_indexOf_32 3 rfl ?_
  refine g_callS hX (con_JL_indexOfChar l Z j) msJL_indexOfChar q_724 rfl (by decide) rfl (Nat.le_of_ble_eq_true rfl) dJL_indexOf_33 [] rfl rfl (g_fn (ws1 := []) (st1 := [.int (ixF ((nI j).toInt8.toInt32) 6 0)]) rfl rfl ?_)
  exact r_iret hX hQ dJL_indexOf_36 rfl (⟨by rw [ixF_kind j hj], rfl⟩)
set_option maxHeartbeats 4000000 in
set_option maxRecDepth 20000 in
theorem con_JS_indexOf1 (l : Launch) (Z : ZZ) (j : Nat) (hj : j < 256) : Con l Z yJS_indexOf1 cJS_indexOf1 3 (some .int) 2 [.ref (adK Z 5), .int (nI j), .int 0] ([]) (Fn (some (.int (kindOfS (nI j)))) ([])) := by
  refine Con.of (by decide) (Nat.le_of_ble_eq_true rfl) (fun X hX hQ => ?_)
  show G X Z [] 0 [(0, .ref (adK Z 5)), (1, .int (nI j)), (2, .int 0)] []
  refine g_aload_n hX dJS_indexOf1_0 0 rfl ?_
  refine g_callT hX (con_JS_isLatin1 l Z 5 (by decide)) mvJS_isLatin1 q_217 rfl (by decide) (by decide) rfl rfl (Nat.le_of_ble_eq_true rfl) dJS_indexOf1_1 [] rfl rfl (g_fn (ws1 := []) (st1 := [.int 1]) rfl rfl ?_)
  refine g_if_eq hX 23 dJS_indexOf1_4 (by decide) (fun c_4 => absurd c_4 (by decide)) (fun c_4 => ?_)
  refine g_aload_n hX dJS_indexOf1_7 0 rfl ?_
  refine g_sval hX (by decide) q_939 dJS_indexOf1_8 ?_
  refine g_iload_n hX dJS_indexOf1_11 1 rfl ?_
  refine g_iload_n hX dJS_indexOf1_12 2 rfl ?_
  refine g_aload_n hX dJS_indexOf1_13 0 rfl ?_
  refine g_callT hX (con_JS_length l Z 5 (by decide)) mvJS_length q_715 rfl (by decide) (by decide) rfl rfl (Nat.le_of_ble_eq_true rfl) dJS_indexOf1_14 [] rfl rfl (g_fn (ws1 := []) (st1 := [.int (nI (sLen.getD 5 0)), .int 0, .int (nI j), .ref (adV Z 5)]) rfl rfl ?_)
  refine g_callS hX (con_JL_indexOf l Z j hj) msJL_indexOf q_716 rfl (by decide) rfl (Nat.le_of_ble_eq_true rfl) dJS_indexOf1_17 [] rfl rfl (g_fn (ws1 := []) (st1 := [.int (kindOfS (nI j))]) rfl rfl ?_)
  refine g_goto hX 36 dJS_indexOf1_20 (by decide) ?_
  exact r_iret hX hQ dJS_indexOf1_36 rfl (⟨rfl, rfl⟩)
set_option maxHeartbeats 4000000 in
set_option maxRecDepth 20000 in
theorem con_JS_indexOf0 (l : Launch) (Z : ZZ) (j : Nat) (hj : j < 256) : Con l Z yJS_indexOf0 cJS_indexOf0 2 (some .int) 3 [.ref (adK Z 5), .int (nI j)] ([]) (Fn (some (.int (kindOfS (nI j)))) ([])) := by
  refine Con.of (by decide) (Nat.le_of_ble_eq_true rfl) (fun X hX hQ => ?_)
  show G X Z [] 0 [(0, .ref (adK Z 5)), (1, .int (nI j))] []
  refine g_aload_n hX dJS_indexOf0_0 0 rfl ?_
  refine g_iload_n hX dJS_indexOf0_1 1 rfl ?_
  refine g_iconst (v := 0) hX dJS_indexOf0_2 (by decide) ?_
  refine g_callT hX (con_JS_indexOf1 l Z j hj) mvJS_indexOf1 q_711 rfl (by decide) (by decide) rfl rfl (Nat.le_of_ble_eq_true rfl) dJS_indexOf0_3 [] rfl rfl (g_fn (ws1 := []) (st1 := [.int (kindOfS (nI j))]) rfl rfl ?_)
  exact r_iret hX hQ dJS_indexOf0_6 rfl (⟨rfl, rfl⟩)

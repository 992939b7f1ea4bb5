/-! the class's own constructor -/
def aX (h t1 t2 b1 b2 b3 b4 b5 : Nat) (q1 q2 q3 q4 q5 : Nat → Nat) : Nat → Nat → Nat := fun i j => match i with
  | 0 => (match j with | 0 => h | 1 => t1 | _ => t2)
  | 1 => (match j with | 0 => b1 | k + 1 => q1 k)
  | 2 => (match j with | 0 => b2 | k + 1 => q2 k)
  | 3 => (match j with | 0 => b3 | k + 1 => q3 k)
  | 4 => (match j with | 0 => b4 | k + 1 => q4 k)
  | _ => (match j with | 0 => b5 | k + 1 => q5 k)
theorem putF_W (a b : va_W) : True := trivial
set_option maxHeartbeats 8000000 in
set_option maxRecDepth 20000 in
theorem con_X_init (l : Launch) (Z : ZZ) (h : Nat) (hWays : ∀ hw, ConN l Z yW_init cW_init 1 1 9 952 [.ref hw] [(hw, .inr (2, [.null, .null]))] (fun ws => ∃ q, ws = wW Z hw q S00)) : ConN l Z yX_init cX_init 1 2 53 1338 [.ref h] [(h, .inr (3, [.null, .null, .null, .int 0, .null, .null, .null, .int 0, .null]))] (fun ws => ∃ a : Nat → Nat → Nat, a 0 0 = h ∧ ws = wX Z a S100 S100 S100 S00 S00 S00) := by
  refine ConN.of (by decide) (by decide) (Nat.le_of_ble_eq_true rfl) (fun X hX hB hR => ?_)
  show G X Z [(h, .inr (3, [.null, .null, .null, .int 0, .null, .null, .null, .int 0, .null]))] 0 [(0, .ref h)] []
  refine g_aload_n hX dX_init_0 0 rfl ?_
  refine g_objI hX (by decide) q_20 q_21 q_22 (by decide) dX_init_1 ?_
  refine g_aload_n hX dX_init_4 0 rfl ?_
  refine g_new (ci := 0) (fs := [.null, .null, .null, .null, .null, .null, .null, .int 0, .null, .null, .null, .null, .int 0, .null, .int 0, .int 0]) hX hR rfl uu_B tyF_B tyF_B_ok q_23 q_24 q_2 (fun j hj => by rcases (show j = 0 ∨ j = 1 ∨ j = 2 ∨ j = 3 ∨ j = 4 ∨ j = 5 ∨ j = 6 ∨ j = 7 ∨ j = 8 ∨ j = 9 ∨ j = 10 ∨ j = 11 ∨ j = 12 ∨ j = 13 ∨ j = 14 ∨ j = 15 by omega) with rfl | rfl | rfl | rfl | rfl | rfl | rfl | rfl | rfl | rfl | rfl | rfl | rfl | rfl | rfl | rfl <;> rfl) (by decide) (by decide) dX_init_5 (fun b1 hX hR => ?_)
  have hB := Bld.grow (a := 1) (b := 16) hB
  refine g_dup hX dX_init_8 rfl ?_
  refine g_callI (C1 := 12) (N1 := 73) hX hR (by decide) (by decide) rfl (con_B_init l Z b1) rfl q_25 q_26 q_2 q_27 ⟨by decide, by decide, by decide +kernel⟩ (by decide) (by decide) (Nat.le_of_ble_eq_true rfl) dX_init_9 (fun wc1 hp hX hR => ?_)
  have hB := Bld.grow (a := 12) (b := 73) hB
  obtain ⟨q1, rfl⟩ := hp
  refine g_putF (ws1 := ([(h, .inr (3, [.ref b1, .null, .null, .int 0, .null, .null, .null, .int 0, .null]))] ++ wB Z b1 q1 S100)) hX hB 0 rfl rfl 0 (by decide) uu_X tyF_X tyF_X_ok nmF_X q_131 rfl rfl rfl rfl rfl rfl (Nat.le_of_ble_eq_true rfl) dX_init_12 rfl ?_
  refine g_aload_n hX dX_init_15 0 rfl ?_
  refine g_new (ci := 0) (fs := [.null, .null, .null, .null, .null, .null, .null, .int 0, .null, .null, .null, .null, .int 0, .null, .int 0, .int 0]) hX hR rfl uu_B tyF_B tyF_B_ok q_23 q_24 q_2 (fun j hj => by rcases (show j = 0 ∨ j = 1 ∨ j = 2 ∨ j = 3 ∨ j = 4 ∨ j = 5 ∨ j = 6 ∨ j = 7 ∨ j = 8 ∨ j = 9 ∨ j = 10 ∨ j = 11 ∨ j = 12 ∨ j = 13 ∨ j = 14 ∨ j = 15 by omega) with rfl | rfl | rfl | rfl | rfl | rfl | rfl | rfl | rfl | rfl | rfl | rfl | rfl | rfl | rfl | rfl <;> rfl) (by decide) (by decide) dX_init_16 (fun b2 hX hR => ?_)
  have hB := Bld.grow (a := 1) (b := 16) hB
  refine g_dup hX dX_init_19 rfl ?_
  refine g_callI (C1 := 12) (N1 := 73) hX hR (by decide) (by decide) rfl (con_B_init l Z b2) rfl q_25 q_26 q_2 q_27 ⟨by decide, by decide, by decide +kernel⟩ (by decide) (by decide) (Nat.le_of_ble_eq_true rfl) dX_init_20 (fun wc1 hp hX hR => ?_)
  have hB := Bld.grow (a := 12) (b := 73) hB
  obtain ⟨q2, rfl⟩ := hp
  refine g_putF (ws1 := (([(h, .inr (3, [.ref b1, .ref b2, .null, .int 0, .null, .null, .null, .int 0, .null]))] ++ wB Z b1 q1 S100) ++ wB Z b2 q2 S100)) hX hB 0 rfl rfl 1 (by decide) uu_X tyF_X tyF_X_ok nmF_X q_132 rfl rfl rfl rfl rfl rfl (Nat.le_of_ble_eq_true rfl) dX_init_23 rfl ?_
  refine g_aload_n hX dX_init_26 0 rfl ?_
  refine g_new (ci := 0) (fs := [.null, .null, .null, .null, .null, .null, .null, .int 0, .null, .null, .null, .null, .int 0, .null, .int 0, .int 0]) hX hR rfl uu_B tyF_B tyF_B_ok q_23 q_24 q_2 (fun j hj => by rcases (show j = 0 ∨ j = 1 ∨ j = 2 ∨ j = 3 ∨ j = 4 ∨ j = 5 ∨ j = 6 ∨ j = 7 ∨ j = 8 ∨ j = 9 ∨ j = 10 ∨ j = 11 ∨ j = 12 ∨ j = 13 ∨ j = 14 ∨ j = 15 by omega) with rfl | rfl | rfl | rfl | rfl | rfl | rfl | rfl | rfl | rfl | rfl | rfl | rfl | rfl | rfl | rfl <;> rfl) (by decide) (by decide) dX_init_27 (fun b3 hX hR => ?_)
  have hB := Bld.grow (a := 1) (b := 16) hB
  refine g_dup hX dX_init_30 rfl ?_
  refine g_callI (C1 := 12) (N1 := 73) hX hR (by decide) (by decide) rfl (con_B_init l Z b3) rfl q_25 q_26 q_2 q_27 ⟨by decide, by decide, by decide +kernel⟩ (by decide) (by decide) (Nat.le_of_ble_eq_true rfl) dX_init_31 (fun wc1 hp hX hR => ?_)
  have hB := Bld.grow (a := 12) (b := 73) hB
  obtain ⟨q3, rfl⟩ := hp
  refine g_putF (ws1 := ((([(h, .inr (3, [.ref b1, .ref b2, .ref b3, .int 0, .null, .null, .null, .int 0, .null]))] ++ wB Z b1 q1 S100) ++ wB Z b2 q2 S100) ++ wB Z b3 q3 S100)) hX hB 0 rfl rfl 2 (by decide) uu_X tyF_X tyF_X_ok nmF_X q_133 rfl rfl rfl rfl rfl rfl (Nat.le_of_ble_eq_true rfl) dX_init_34 rfl ?_
  refine g_aload_n hX dX_init_37 0 rfl ?_
  refine g_iconst (v := 0) hX dX_init_38 (by decide) ?_
  refine g_put (ws1 := ((([(h, .inr (3, [.ref b1, .ref b2, .ref b3, .int 0, .null, .null, .null, .int 0, .null]))] ++ wB Z b1 q1 S100) ++ wB Z b2 q2 S100) ++ wB Z b3 q3 S100)) hX 0 rfl rfl 3 (by decide) uu_X tyF_X tyF_X_ok nmF_X q_134 rfl rfl rfl rfl rfl (Nat.le_of_ble_eq_true rfl) dX_init_39 rfl ?_
  refine g_aload_n hX dX_init_42 0 rfl ?_
  refine g_new (ci := 1) (fs := [.null, .int 0]) hX hR rfl uu_T tyF_T tyF_T_ok q_101 q_102 q_4 (fun j hj => by rcases (show j = 0 ∨ j = 1 by omega) with rfl | rfl <;> rfl) (by decide) (by decide) dX_init_43 (fun b4 hX hR => ?_)
  have hB := Bld.grow (a := 1) (b := 2) hB
  refine g_dup hX dX_init_46 rfl ?_
  refine g_callIN (C1 := 1) (N1 := 96) hX hR (by decide) (by decide) rfl (con_T_init l Z b4) rfl (fun U hE => hE.2.1) q_104 q_4 q_105 ⟨by decide, by decide, by decide +kernel⟩ (by decide) (by decide) (Nat.le_of_ble_eq_true rfl) dX_init_47 (fun wc1 hp hX hR => ?_)
  have hB := Bld.grow (a := 1) (b := 96) hB
  obtain ⟨q4, rfl⟩ := hp
  refine g_putF (ws1 := (((([(h, .inr (3, [.ref b1, .ref b2, .ref b3, .int 0, .ref b4, .null, .null, .int 0, .null]))] ++ wB Z b1 q1 S100) ++ wB Z b2 q2 S100) ++ wB Z b3 q3 S100) ++ wT Z b4 q4 S00)) hX hB 0 rfl rfl 4 (by decide) uu_X tyF_X tyF_X_ok nmF_X q_135 rfl rfl rfl rfl rfl rfl (Nat.le_of_ble_eq_true rfl) dX_init_50 rfl ?_
  refine g_aload_n hX dX_init_53 0 rfl ?_
  refine g_new (ci := 2) (fs := [.null, .null]) hX hR rfl uu_W tyF_W tyF_W_ok q_115 q_116 q_5 (fun j hj => by rcases (show j = 0 ∨ j = 1 by omega) with rfl | rfl <;> rfl) (by decide) (by decide) dX_init_54 (fun b5 hX hR => ?_)
  have hB := Bld.grow (a := 1) (b := 2) hB
  refine g_dup hX dX_init_57 rfl ?_
  refine g_callIN (C1 := 9) (N1 := 952) hX hR (by decide) (by decide) rfl (hWays b5) rfl (fun U hE => hE.2.2) q_118 q_5 q_119 ⟨by decide, by decide, by decide +kernel⟩ (by decide) (by decide) (Nat.le_of_ble_eq_true rfl) dX_init_58 (fun wc1 hp hX hR => ?_)
  have hB := Bld.grow (a := 9) (b := 952) hB
  obtain ⟨q5, rfl⟩ := hp
  refine g_putF (ws1 := ((((([(h, .inr (3, [.ref b1, .ref b2, .ref b3, .int 0, .ref b4, .ref b5, .null, .int 0, .null]))] ++ wB Z b1 q1 S100) ++ wB Z b2 q2 S100) ++ wB Z b3 q3 S100) ++ wT Z b4 q4 S00) ++ wW Z b5 q5 S00)) hX hB 0 rfl rfl 5 (by decide) uu_X tyF_X tyF_X_ok nmF_X q_136 rfl rfl rfl rfl rfl rfl (Nat.le_of_ble_eq_true rfl) dX_init_61 rfl ?_
  refine g_aload_n hX dX_init_64 0 rfl ?_
  refine g_bipush (v := 12) hX dX_init_65 (by decide) ?_
  refine g_newa hX hR 12 (by decide) rfl (by decide) (by decide) q_100 dX_init_67 (fun t1 hX hR => ?_)
  have hB := Bld.grow (a := 1) (b := 12) hB
  refine g_putF (ws1 := (((((([(h, .inr (3, [.ref b1, .ref b2, .ref b3, .int 0, .ref b4, .ref b5, .ref t1, .int 0, .null]))] ++ wB Z b1 q1 S100) ++ wB Z b2 q2 S100) ++ wB Z b3 q3 S100) ++ wT Z b4 q4 S00) ++ wW Z b5 q5 S00) ++ [(t1, .inl (zI Z, 12, .inl (fun _ => 0)))])) hX hB 0 rfl rfl 6 (by decide) uu_X tyF_X tyF_X_ok nmF_X q_137 rfl rfl rfl rfl rfl rfl (Nat.le_of_ble_eq_true rfl) dX_init_69 rfl ?_
  refine g_aload_n hX dX_init_72 0 rfl ?_
  refine g_iconst (v := 0) hX dX_init_73 (by decide) ?_
  refine g_put (ws1 := (((((([(h, .inr (3, [.ref b1, .ref b2, .ref b3, .int 0, .ref b4, .ref b5, .ref t1, .int 0, .null]))] ++ wB Z b1 q1 S100) ++ wB Z b2 q2 S100) ++ wB Z b3 q3 S100) ++ wT Z b4 q4 S00) ++ wW Z b5 q5 S00) ++ [(t1, .inl (zI Z, 12, .inl (fun _ => 0)))])) hX 0 rfl rfl 7 (by decide) uu_X tyF_X tyF_X_ok nmF_X q_138 rfl rfl rfl rfl rfl (Nat.le_of_ble_eq_true rfl) dX_init_74 rfl ?_
  refine g_aload_n hX dX_init_77 0 rfl ?_
  refine g_bipush (v := 7) hX dX_init_78 (by decide) ?_
  refine g_newa hX hR 7 (by decide) rfl (by decide) (by decide) q_100 dX_init_80 (fun t2 hX hR => ?_)
  have hB := Bld.grow (a := 1) (b := 7) hB
  refine g_putF (ws1 := ((((((([(h, .inr (3, [.ref b1, .ref b2, .ref b3, .int 0, .ref b4, .ref b5, .ref t1, .int 0, .ref t2]))] ++ wB Z b1 q1 S100) ++ wB Z b2 q2 S100) ++ wB Z b3 q3 S100) ++ wT Z b4 q4 S00) ++ wW Z b5 q5 S00) ++ [(t1, .inl (zI Z, 12, .inl (fun _ => 0)))]) ++ [(t2, .inl (zI Z, 7, .inl (fun _ => 0)))])) hX hB 0 rfl rfl 8 (by decide) uu_X tyF_X tyF_X_ok nmF_X q_139 rfl rfl rfl rfl rfl rfl (Nat.le_of_ble_eq_true rfl) dX_init_82 rfl ?_
  refine g_sub (ws1 := wX Z (aX h t1 t2 b1 b2 b3 b4 b5 q1 q2 q3 q4 q5) S100 S100 S100 S00 S00 S00) [0, 52, 53, 1, 2, 3, 4, 5, 6, 7, 8, 9, 10, 11, 12, 13, 14, 15, 16, 17, 18, 19, 20, 21, 22, 23, 24, 25, 26, 27, 28, 29, 30, 31, 32, 33, 34, 35, 36, 37, 38, 39, 40, 41, 42, 43, 44, 45, 46, 47, 48, 49, 50, 51] rfl rfl ?_
  exact g_nret hX hB hR dX_init_85 ⟨(aX h t1 t2 b1 b2 b3 b4 b5 q1 q2 q3 q4 q5), rfl, rfl⟩


def qW (r : Nat → Nat) (q e : Nat) : Nat → Nat := fun i => if i < 7 then r i else if i = 7 then q else e
theorem qW_out (r : Nat → Nat) (q e : Nat) : (fun i => if i < 7 then some (r i) else none) = (fun i => if i < 7 then some (qW r q e i) else none) := funext fun i => by
  by_cases h : i < 7
  · rw [if_pos h, if_pos h]
    show some (r i) = some (if i < 7 then r i else if i = 7 then q else e)
    rw [if_pos h]
  · rw [if_neg h, if_neg h]
set_option maxHeartbeats 4000000 in
set_option maxRecDepth 20000 in
theorem con_W_init (l : Launch) (Z : ZZ) (h : Nat) : ConN l Z yW_init cW_init 1 1 9 952 [.ref h] [(h, .inr (2, [.null, .null]))] (fun ws => ∃ q, ws = wW Z h q S00) := by
  refine ConN.of (by decide) (by decide) (Nat.le_of_ble_eq_true rfl) (fun X hX hB hR => ?_)
  show G X Z [(h, .inr (2, [.null, .null]))] 0 [(0, .ref h)] []
  refine g_aload_n hX dW_init_0 0 rfl ?_
  refine g_objI hX (by decide) q_120 q_21 q_22 (by decide) dW_init_1 ?_
  refine g_aload_n hX dW_init_4 0 rfl ?_
  refine g_bipush (v := 7) hX dW_init_5 (by decide) ?_
  refine g_bipush (v := 7) hX dW_init_7 (by decide) ?_
  refine g_mna hX hR (by decide) (by decide) q_121 q_100 dW_init_9 (fun q r hX hR => ?_)
  have hB := Bld.grow (a := 8) (b := 56) hB
  refine g_putF (ws1 := (([(h, .inr (2, [.ref q, .null]))] ++ [(q, .inl (zJ Z, 7, .inr (.inr (.inr (.inr (fun i => if i < 7 then some (r i) else none))))))]) ++ (List.range 7).map (fun i => (r i, .inl (zI Z, 7, .inl (fun _ => 0)))))) hX hB 0 rfl rfl 0 (by decide) uu_W tyF_W tyF_W_ok nmF_W q_123 rfl rfl rfl rfl rfl rfl (Nat.le_of_ble_eq_true rfl) dW_init_13 rfl ?_
  refine g_aload_n hX dW_init_16 0 rfl ?_
  refine g_sipush (v := 896) hX dW_init_17 (by decide) ?_
  refine g_newa hX hR 896 (by decide) rfl (by decide) (by decide) q_100 dW_init_20 (fun e hX hR => ?_)
  have hB := Bld.grow (a := 1) (b := 896) hB
  refine g_putF (ws1 := (([(h, .inr (2, [.ref q, .ref e]))] ++ [(q, .inl (zJ Z, 7, .inr (.inr (.inr (.inr (fun i => if i < 7 then some (r i) else none))))))]) ++ (List.range 7).map (fun i => (r i, .inl (zI Z, 7, .inl (fun _ => 0))))) ++ [(e, .inl (zI Z, 896, .inl (fun _ => 0)))]) hX hB 0 rfl rfl 1 (by decide) uu_W tyF_W tyF_W_ok nmF_W q_125 rfl rfl rfl rfl rfl rfl (Nat.le_of_ble_eq_true rfl) dW_init_22 rfl ?_
  rw [qW_out r q e]
  refine g_sub (ws1 := wW Z h (qW r q e) S00) [0, 2, 3, 4, 5, 6, 7, 8, 1, 9] rfl rfl ?_
  exact g_nret hX hB hR dW_init_25 ⟨qW r q e, rfl⟩

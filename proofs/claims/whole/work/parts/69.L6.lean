/-! the law from its entry to its loop -/
theorem LawX.grow {X : XX} {b L : Nat} {xs : Nat → Int32} {C N k k2 a c : Nat} (h : LawX X b L xs) (hR : Rmx X C N k k2) (h1 : k + a ≤ 600000) (h2 : k2 + c ≤ 7302249) : LawX (grw X a c) b L xs := by
  obtain ⟨p, l, e, R, s, m, args, below, meth, c, kc, ks, Q, nL, A⟩ := X
  obtain ⟨h3, h4, h5, h6, h7, h8, -, -, h9⟩ := h
  obtain ⟨-, -, rfl, rfl, -⟩ := hR
  exact ⟨h3, h4, h5, h6, h7, h8, h1, h2, h9⟩
theorem rel_0 : Rel S100 S100 S00 S00 S100 := by
  have e0 : (0 : Int32) = nI 0 := nI_0.symm
  refine ⟨⟨0, 0, fun _ => 0, fun _ => 0, fun _ => 0, fun _ => 0, e0, by decide, e0, by decide, fun g hg => absurd hg (Nat.not_lt_zero g), fun g hg => absurd hg (Nat.not_lt_zero g), fun g hg => absurd hg (Nat.not_lt_zero g), fun g hg => absurd hg (Nat.not_lt_zero g), fun j hj => ⟨⟨100, by decide, ?_⟩, 0, by decide, e0⟩, fun f _ _ => e0, fun f => Nat.zero_le 5, rfl, fun _ _ => rfl, fun _ _ _ _ _ => rfl, fun _ _ => rfl⟩, ⟨0, e0, by decide, e0, fun j hj => absurd hj (Nat.not_lt_zero j), fun j hj => absurd hj (Nat.not_lt_zero j)⟩, ⟨0, e0, by decide, e0, rfl⟩, rfl, rfl, fun h => absurd rfl h⟩
  show (if j < 6 then (100 : Int32) else 0) = nI 100
  rw [if_pos hj]
  decide
set_option maxHeartbeats 4000000 in
set_option maxRecDepth 20000 in
theorem law_start {X : XX} {Z : ZZ} {l : Launch} {b L : Nat} {xs : Nat → Int32} (hWays : ∀ hw, ConN l Z yW_init cW_init 1 1 9 952 [.ref hw] [(hw, .inr (2, [.null, .null]))] (fun ws => ∃ q, ws = wW Z hw q S00)) (hX : Okk X Z code 4 "NeverBothDoorsLaw" l 11) (hR : Rmx X 600000 7302249 0 0) (hW : LawX X b L xs) (hL : L ≤ 1536) : G X Z [] 0 [(0, .ref b)] [] := by
  have hR9 := hR
  refine g_new (ci := 3) (fs := [.null, .null, .null, .int 0, .null, .null, .null, .int 0, .null]) hX hR rfl uu_X tyF_X tyF_X_ok q_15 q_16 q_1 (fun j hj => by rcases (show j = 0 ∨ j = 1 ∨ j = 2 ∨ j = 3 ∨ j = 4 ∨ j = 5 ∨ j = 6 ∨ j = 7 ∨ j = 8 by omega) with rfl | rfl | rfl | rfl | rfl | rfl | rfl | rfl | rfl <;> rfl) (by decide) (by decide) dL_law_0 (fun h hX hR => ?_)
  have hW := hW.grow (a := 1) (c := 9) hR9 (by decide) (by decide)
  have hR9 := hR
  refine g_dup hX dL_law_3 rfl ?_
  refine g_callI (C1 := 53) (N1 := 1338) hX hR (by decide) (by decide) rfl (con_X_init l Z h hWays) rfl q_17 q_18 q_1 q_19 ⟨by decide, by decide, by decide +kernel⟩ (by decide) (by decide) (Nat.le_of_ble_eq_true rfl) dL_law_4 (fun wc1 hp hX hR => ?_)
  have hW := hW.grow (a := 53) (c := 1338) hR9 (by decide) (by decide)
  have hR9 := hR
  obtain ⟨a, ha, rfl⟩ := hp
  subst ha
  refine g_astore_n hX dL_law_7 (by decide) [1, 0] rfl ?_
  refine g_new (ci := 4) (fs := [.null, .null, .int 0, .null, .null, .null, .null, .null, .int 0, .null, .null, .null, .null, .int 0, .null, .int 0, .int 0, .null, .int 0, .null, .int 0, .null, .null, .int 0, .null, .null, .null, .null, .null]) hX hR rfl uu_M tyF_M tyF_M_ok q_578 q_579 q_6 (fun j hj => by rcases (show j = 0 ∨ j = 1 ∨ j = 2 ∨ j = 3 ∨ j = 4 ∨ j = 5 ∨ j = 6 ∨ j = 7 ∨ j = 8 ∨ j = 9 ∨ j = 10 ∨ j = 11 ∨ j = 12 ∨ j = 13 ∨ j = 14 ∨ j = 15 ∨ j = 16 ∨ j = 17 ∨ j = 18 ∨ j = 19 ∨ j = 20 ∨ j = 21 ∨ j = 22 ∨ j = 23 ∨ j = 24 ∨ j = 25 ∨ j = 26 ∨ j = 27 ∨ j = 28 by omega) with rfl | rfl | rfl | rfl | rfl | rfl | rfl | rfl | rfl | rfl | rfl | rfl | rfl | rfl | rfl | rfl | rfl | rfl | rfl | rfl | rfl | rfl | rfl | rfl | rfl | rfl | rfl | rfl | rfl <;> rfl) (by decide) (by decide) dL_law_8 (fun h hX hR => ?_)
  have hW := hW.grow (a := 1) (c := 29) hR9 (by decide) (by decide)
  have hR9 := hR
  refine g_dup hX dL_law_11 rfl ?_
  refine g_callI (C1 := 21) (N1 := 1262) hX hR (by decide) (by decide) rfl (con_M_init l Z h) rfl q_580 q_581 q_6 q_582 ⟨by decide, by decide, by decide +kernel⟩ (by decide) (by decide) (Nat.le_of_ble_eq_true rfl) dL_law_12 (fun wc1 hp hX hR => ?_)
  have hW := hW.grow (a := 21) (c := 1262) hR9 (by decide) (by decide)
  obtain ⟨q, rfl⟩ := hp
  refine g_astore_n hX dL_law_15 (by decide) [1, 2, 0] rfl ?_
  refine g_iconst (v := nI (3 * 0)) hX dL_law_16 (by decide) ?_
  refine g_istore_n hX dL_law_17 (by decide) [1, 2, 3, 0] rfl ?_
  exact law_loop hX hW hL 0 (by decide) S100 S100 S100 S00 S00 S00 S100 rel_0

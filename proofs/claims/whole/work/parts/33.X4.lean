/-! the class itself: ways -/
theorem XP_mk {Z : ZZ} {a : Nat → Nat → Nat} {v : Int32} {Sn Sm Sk T L U : St} : XP Z a (v, Sn, Sk, T, U) (some (.int v)) (wX Z a Sn Sm Sk T L U) := ⟨rfl, Sm, L, rfl⟩
def xf_way (Sn Sk T U : St) (D : Nat → Nat → Nat) (x y : Int32) : XR := if isPlaceS x = 0 then (-1, Sn, Sk, T, rfU U 1) else if isPlaceS y = 0 then (-1, Sn, Sk, T, rfU U 1) else (orNoneS (nI (D (cl x) (cl y))), Sn, Sk, T, U)
def xf_soonest (Sn Sk T U : St) (D : Nat → Nat → Nat) (x : Int32) : XR := if isPlaceS x = 0 then (-1, Sn, Sk, T, rfU U 1) else (orNoneS (nI (minD D (cl x) 6)), Sn, Sk, T, U)
def xf_farthest (Sn Sk T U : St) (D : Nat → Nat → Nat) (w : Int32) : XR := if w = 0 then (if isRoomS (frR D 6) = 0 then (-9, Sn, Sk, T, U) else (frR D 6, Sn, Sk, T, U)) else if w = 1 then (if isRoomS (frR D 6) = 0 then (-9, Sn, Sk, T, U) else (nI (D 6 (cl (frR D 6))), Sn, Sk, T, U)) else (-2, Sn, Sk, T, rfU U 2)
def xf_errands (Sn Sk T U : St) (D : Nat → Nat → Nat) (x y : Int32) : XR := if isPlaceS x = 0 then (-1, Sn, Sk, T, rfU U 1) else if y < 0 then (-1, Sn, Sk, T, rfU U 1) else if y < 128 then (orNoneS (nI (errD D (cl x) (cl y))), Sn, Sk, T, U) else (-1, Sn, Sk, T, rfU U 1)
theorem plc_of {y : Int32} (h1 : ¬ y < 0) (h2 : y < 128) : ∃ pl, pl < 128 ∧ y = nI pl := by
  obtain ⟨j, hj, rfl⟩ := nI_of h1
  have h3 : nI j < nI 128 := h2
  rw [nI_ltI hj (by omega)] at h3
  exact ⟨j, h3, rfl⟩
/-- the longest way with a lock told as a number; below 0 none -/
def lw9 (D : Nat → Nat → Nat) (x : Int32) : Int32 := if 0 ≤ x then nI (lwD D (cl x / 10) (cl x % 10) 6) else 1000000
theorem div10 {p q : Nat} (hp : p < 7) (hq : q < 7) : nI (10 * p + q) / 10 = nI p := by
  have := pk_div (a := 10 * p + q) (d := 10) (by omega) (by omega) (by omega)
  rw [show (10 * p + q) / 10 = p by omega] at this
  exact this
theorem rem10 {p q : Nat} (hp : p < 7) (hq : q < 7) : nI (10 * p + q) - nI (10 * p + q) / 10 * 10 = nI q := by
  have := pk_rem (a := 10 * p + q) (d := 10) (by omega) (by omega) (by omega)
  rw [show (10 * p + q) % 10 = q by omega] at this
  exact this
theorem lw9_nat {D : Nat → Nat → Nat} {p q : Nat} (hp : p < 7) (hq : q < 7) : lw9 D (nI (10 * p + q)) = nI (lwD D p q 6) := by
  unfold lw9
  rw [if_pos (nI_pos' (by omega)), show cl (nI (10 * p + q)) = 10 * p + q from nI_clamp (by omega), show (10 * p + q) / 10 = p by omega, show (10 * p + q) % 10 = q by omega]
/-- the best new lock so far: its number, and the longest way with it -/
def bnI (D : Nat → Nat → Nat) (i : Nat) (s : Int32 × Nat) : Nat → Int32 × Nat
  | 0 => s
  | k + 1 => if i < k then (if (bnI D i s k).2 ≤ lwD D i k 6 then bnI D i s k else (nI (10 * i + k), lwD D i k 6)) else bnI D i s k
def bnO (D : Nat → Nat → Nat) : Nat → Int32 × Nat
  | 0 => (-9, 1000000)
  | i + 1 => bnI D i (bnO D i) 7
theorem bnI_start (D : Nat → Nat → Nat) (i : Nat) (s : Int32 × Nat) : ∀ k, k ≤ i + 1 → bnI D i s k = s
  | 0, _ => rfl
  | k + 1, h => by rw [bnI, if_neg (by omega)]; exact bnI_start D i s k (by omega)
theorem bnI_le {D : Nat → Nat → Nat} {i : Nat} {s : Int32 × Nat} (h : s.2 ≤ 1000000) : ∀ k, (bnI D i s k).2 ≤ 1000000
  | 0 => h
  | k + 1 => by
    have ih := bnI_le (D := D) (i := i) h k
    rw [bnI]
    split
    · split
      · exact ih
      · omega
    · exact ih
theorem bnO_le (D : Nat → Nat → Nat) : ∀ i, (bnO D i).2 ≤ 1000000
  | 0 => Nat.le_refl _
  | i + 1 => bnI_le (bnO_le D i) 7
def bnF (s : Int32 × Nat) : Prop := s.1 < 0 ∨ ∃ p q, p < 7 ∧ q < 7 ∧ s.1 = nI (10 * p + q)
theorem bnI_form {D : Nat → Nat → Nat} {i : Nat} (hi : i < 7) {s : Int32 × Nat} (h : bnF s) : ∀ k, k ≤ 7 → bnF (bnI D i s k)
  | 0, _ => h
  | k + 1, hk => by
    have ih := bnI_form (D := D) hi h k (by omega)
    rw [bnI]
    split
    · split
      · exact ih
      · exact Or.inr ⟨i, k, hi, by omega, rfl⟩
    · exact ih
theorem bnO_form (D : Nat → Nat → Nat) : ∀ i, i ≤ 7 → bnF (bnO D i)
  | 0, _ => Or.inl (by show (-9 : Int32) < 0; decide)
  | i + 1, h => bnI_form (by omega) (bnO_form D i (by omega)) 7 (Nat.le_refl _)
theorem bn_keep {D : Nat → Nat → Nat} {i k e : Nat} {s : Int32 × Nat} {b : Int32} (hC : Cap D) (h : bnI D i s k = (b, e)) (hs : s.2 ≤ 1000000) (hc : nI e ≤ nI (lwD D i k 6)) : bnI D i s (k + 1) = (b, e) := by
  have h1 := bnI_le (D := D) (i := i) hs k
  rw [h] at h1
  have h2 := lwD_le hC i k 6 (Nat.le_refl _)
  rw [nI_leI (by show e < _; have : e ≤ 1000000 := h1; omega) (by omega)] at hc
  rw [bnI, h]
  show (if i < k then (if e ≤ lwD D i k 6 then (b, e) else (nI (10 * i + k), lwD D i k 6)) else (b, e)) = (b, e)
  rw [if_pos hc]
  split <;> rfl
theorem bn_new {D : Nat → Nat → Nat} {i k e : Nat} {s : Int32 × Nat} {b : Int32} (hC : Cap D) (h : bnI D i s k = (b, e)) (hs : s.2 ≤ 1000000) (hik : i < k) (hc : ¬ nI e ≤ nI (lwD D i k 6)) : bnI D i s (k + 1) = (nI (10 * i + k), lwD D i k 6) := by
  have h1 := bnI_le (D := D) (i := i) hs k
  rw [h] at h1
  have h2 := lwD_le hC i k 6 (Nat.le_refl _)
  rw [nI_leI (by show e < _; have : e ≤ 1000000 := h1; omega) (by omega)] at hc
  rw [bnI, h]
  show (if i < k then (if e ≤ lwD D i k 6 then (b, e) else (nI (10 * i + k), lwD D i k 6)) else (b, e)) = _
  rw [if_pos hik, if_neg hc]
def xf_more (Sn Sk T U : St) (D : Nat → Nat → Nat) (w : Int32) : XR := if w = 0 then ((bnO D 7).1, Sn, Sk, T, U) else if w = 1 then (orNoneS (lw9 D (bnO D 7).1), Sn, Sk, T, U) else (-2, Sn, Sk, T, rfU U 2)
set_option maxHeartbeats 400000 in
set_option maxRecDepth 20000 in
theorem con_X_way (l : Launch) (Z : ZZ) (a : Nat → Nat → Nat) (Sn Sm Sk T L U : St) (x y : Int32) (nL : Nat) (o t c : Nat → Nat) (hL : Sn 12 0 = nI nL) (hL7 : nL ≤ 7) (hLk : Lks Sn nL o t c) : Con l Z yX_way cX_way 3 (some .int) 3 [.ref (a 0 0), .int x, .int y] (wX Z a Sn Sm Sk T L U) (XP Z a (xf_way Sn Sk T U (dst o t c nL) x y)) := by
  refine Con.of (by decide) (Nat.le_of_ble_eq_true rfl) (fun X hX hQ => ?_)
  show G X Z (wX Z a Sn Sm Sk T L U) 0 [(0, .ref (a 0 0)), (1, .int x), (2, .int y)] []
  refine g_iload_n hX dX_way_0 1 rfl ?_
  refine g_callS hX (con_X_isPlace l Z x) msX_isPlace q_409 rfl (by decide) rfl (Nat.le_of_ble_eq_true rfl) dX_way_1 [] rfl (rfl) (g_fn (ws1 := wX Z a Sn Sm Sk T L U) (st1 := [.int (isPlaceS x)]) (rfl) rfl ?_)
  refine g_if_eq hX 14 dX_way_4 (by decide) (fun c_4 => ?_) (fun c_4 => ?_)
  · refine g_aload_n hX dX_way_14 0 rfl ?_
    refine g_iconst (v := (-1)) hX dX_way_15 (by decide) ?_
    refine g_callV hX (con_X_refuse l Z a Sn Sm Sk T L U (-1) 1 (by decide) (by decide) (by decide) (by decide)) mvX_refuse q_163 rfl (by decide) 0 rfl rfl rfl (Nat.le_of_ble_eq_true rfl) dX_way_16 [0, 1, 2, 3, 4, 5, 6, 7, 8, 9, 10, 11, 12, 13, 14, 15, 16, 17, 18, 19, 20, 21, 22, 23, 24, 25, 26, 27, 28, 29, 30, 31, 32, 33, 34, 35, 36, 37, 38, 39, 40, 41, 42, 43, 44, 45, 46, 47, 48, 49, 50, 51, 52, 53] rfl (subX_all Z a Sn Sm Sk T L U) (g_fn (ws1 := wX Z a Sn Sm Sk T L (rfU U 1)) (st1 := [.int (-1)]) (putX_all Z a Sn Sm Sk T L U Sn Sm Sk T L (rfU U 1)) rfl ?_)
    exact r_iret hX hQ dX_way_19 rfl (by rw [show xf_way Sn Sk T U (dst o t c nL) x y = ((-1), Sn, Sk, T, rfU U 1) from by simp [xf_way, c_4]]; exact XP_mk)
  · refine g_iload_n hX dX_way_7 2 rfl ?_
    refine g_callS hX (con_X_isPlace l Z y) msX_isPlace q_409 rfl (by decide) rfl (Nat.le_of_ble_eq_true rfl) dX_way_8 [] rfl (rfl) (g_fn (ws1 := wX Z a Sn Sm Sk T L U) (st1 := [.int (isPlaceS y)]) (rfl) rfl ?_)
    refine g_if_ne hX 20 dX_way_11 (by decide) (fun c_11 => ?_) (fun c_11 => ?_)
    · obtain ⟨f0, hf07, rfl⟩ := isPlace_of c_4
      obtain ⟨t0, ht07, rfl⟩ := isPlace_of c_11
      refine g_aload_n hX dX_way_20 0 rfl ?_
      refine g_get hX 0 rfl rfl 5 (by decide) uu_X q_136 rfl rfl dX_way_21 ?_
      refine g_aload_n hX dX_way_24 0 rfl ?_
      refine g_get hX 0 rfl rfl 0 (by decide) uu_X q_131 rfl rfl dX_way_25 ?_
      refine g_callV hX (con_W_measure l Z (a 5 0) (fun k => a 5 (k + 1)) L (a 1 0) (fun k => a 1 (k + 1)) Sn nL o t c hL hL7 hLk) mvW_measure q_410 rfl (by decide) 44 rfl rfl rfl (Nat.le_of_ble_eq_true rfl) dX_way_28 [44, 45, 46, 47, 48, 49, 50, 51, 52, 53, 3, 4, 5, 6, 7, 8, 9, 10, 11, 12, 13, 14, 15] rfl (subX_5_1 Z a Sn Sm Sk T L U) (fun v w hp => ?_)
      obtain ⟨rfl, T1, hM_T1, h8_T1, rfl⟩ := hp
      refine g_eq (ws1 := wX Z a Sn Sm Sk T T1 U) (st1 := []) (putX_5_1 Z a Sn Sm Sk T L U T1 Sn) rfl rfl ?_
      refine g_aload_n hX dX_way_31 0 rfl ?_
      refine g_get hX 0 rfl rfl 5 (by decide) uu_X q_136 rfl rfl dX_way_32 ?_
      refine g_get hX 44 rfl rfl 0 (by decide) uu_W q_124 rfl rfl dX_way_35 ?_
      refine g_iload_n hX dX_way_38 1 rfl ?_
      refine g_aald (v := (fun k => a 5 (k + 1)) f0) hX 52 rfl f0 (by omega) (by decide) (rfl) (if_pos (by omega)) dX_way_39 ?_
      refine g_iload_n hX dX_way_40 2 rfl ?_
      refine g_ald (v := (nI ((dst o t c nL) f0 t0))) hX (45 + f0) (rowatX Z a Sn Sm Sk T T1 U (by omega)) t0 (by omega) (by decide) (rfl) (hM_T1 f0 hf07 t0 ht07) dX_way_41 ?_
      refine g_callS hX (con_X_orNone l Z (nI ((dst o t c nL) f0 t0))) msX_orNone q_425 rfl (by decide) rfl (Nat.le_of_ble_eq_true rfl) dX_way_42 [] rfl (rfl) (g_fn (ws1 := wX Z a Sn Sm Sk T T1 U) (st1 := [.int (orNoneS (nI ((dst o t c nL) f0 t0)))]) (rfl) rfl ?_)
      exact r_iret hX hQ dX_way_45 rfl (by rw [show xf_way Sn Sk T U (dst o t c nL) (nI f0) (nI t0) = ((orNoneS (nI ((dst o t c nL) f0 t0))), Sn, Sk, T, U) from by simp [xf_way, c_4, c_11, nI_clamp (show f0 < 2 ^ 31 by omega), nI_clamp (show t0 < 2 ^ 31 by omega)]]; exact XP_mk)
    · refine g_aload_n hX dX_way_14 0 rfl ?_
      refine g_iconst (v := (-1)) hX dX_way_15 (by decide) ?_
      refine g_callV hX (con_X_refuse l Z a Sn Sm Sk T L U (-1) 1 (by decide) (by decide) (by decide) (by decide)) mvX_refuse q_163 rfl (by decide) 0 rfl rfl rfl (Nat.le_of_ble_eq_true rfl) dX_way_16 [0, 1, 2, 3, 4, 5, 6, 7, 8, 9, 10, 11, 12, 13, 14, 15, 16, 17, 18, 19, 20, 21, 22, 23, 24, 25, 26, 27, 28, 29, 30, 31, 32, 33, 34, 35, 36, 37, 38, 39, 40, 41, 42, 43, 44, 45, 46, 47, 48, 49, 50, 51, 52, 53] rfl (subX_all Z a Sn Sm Sk T L U) (g_fn (ws1 := wX Z a Sn Sm Sk T L (rfU U 1)) (st1 := [.int (-1)]) (putX_all Z a Sn Sm Sk T L U Sn Sm Sk T L (rfU U 1)) rfl ?_)
      exact r_iret hX hQ dX_way_19 rfl (by rw [show xf_way Sn Sk T U (dst o t c nL) x y = ((-1), Sn, Sk, T, rfU U 1) from by simp [xf_way, c_4, c_11]]; exact XP_mk)
set_option maxHeartbeats 400000 in
set_option maxRecDepth 20000 in
theorem con_X_soonest (l : Launch) (Z : ZZ) (a : Nat → Nat → Nat) (Sn Sm Sk T L U : St) (x : Int32) (nL : Nat) (o t c : Nat → Nat) (hL : Sn 12 0 = nI nL) (hL7 : nL ≤ 7) (hLk : Lks Sn nL o t c) : Con l Z yX_soonest cX_soonest 2 (some .int) 3 [.ref (a 0 0), .int x] (wX Z a Sn Sm Sk T L U) (XP Z a (xf_soonest Sn Sk T U (dst o t c nL) x)) := by
  refine Con.of (by decide) (Nat.le_of_ble_eq_true rfl) (fun X hX hQ => ?_)
  show G X Z (wX Z a Sn Sm Sk T L U) 0 [(0, .ref (a 0 0)), (1, .int x)] []
  refine g_iload_n hX dX_soonest_0 1 rfl ?_
  refine g_callS hX (con_X_isPlace l Z x) msX_isPlace q_409 rfl (by decide) rfl (Nat.le_of_ble_eq_true rfl) dX_soonest_1 [] rfl (rfl) (g_fn (ws1 := wX Z a Sn Sm Sk T L U) (st1 := [.int (isPlaceS x)]) (rfl) rfl ?_)
  refine g_if_ne hX 13 dX_soonest_4 (by decide) (fun c_4 => ?_) (fun c_4 => ?_)
  · obtain ⟨f0, hf07, rfl⟩ := isPlace_of c_4
    refine g_aload_n hX dX_soonest_13 0 rfl ?_
    refine g_get hX 0 rfl rfl 5 (by decide) uu_X q_136 rfl rfl dX_soonest_14 ?_
    refine g_aload_n hX dX_soonest_17 0 rfl ?_
    refine g_get hX 0 rfl rfl 0 (by decide) uu_X q_131 rfl rfl dX_soonest_18 ?_
    refine g_callV hX (con_W_measure l Z (a 5 0) (fun k => a 5 (k + 1)) L (a 1 0) (fun k => a 1 (k + 1)) Sn nL o t c hL hL7 hLk) mvW_measure q_410 rfl (by decide) 44 rfl rfl rfl (Nat.le_of_ble_eq_true rfl) dX_soonest_21 [44, 45, 46, 47, 48, 49, 50, 51, 52, 53, 3, 4, 5, 6, 7, 8, 9, 10, 11, 12, 13, 14, 15] rfl (subX_5_1 Z a Sn Sm Sk T L U) (fun v w hp => ?_)
    obtain ⟨rfl, T1, hM_T1, h8_T1, rfl⟩ := hp
    refine g_eq (ws1 := wX Z a Sn Sm Sk T T1 U) (st1 := []) (putX_5_1 Z a Sn Sm Sk T L U T1 Sn) rfl rfl ?_
    refine g_aload_n hX dX_soonest_24 0 rfl ?_
    refine g_get hX 0 rfl rfl 5 (by decide) uu_X q_136 rfl rfl dX_soonest_25 ?_
    refine g_iload_n hX dX_soonest_28 1 rfl ?_
    refine g_callV hX (con_W_toAnyRoom l Z (a 5 0) (fun k => a 5 (k + 1)) T1 (dst o t c nL) hM_T1 (dst_cap o t c nL) f0 (by omega)) mvW_toAnyRoom q_433 rfl (by decide) 44 rfl rfl rfl (Nat.le_of_ble_eq_true rfl) dX_soonest_29 [44, 45, 46, 47, 48, 49, 50, 51, 52, 53] rfl (subX_5 Z a Sn Sm Sk T T1 U) (g_fn (ws1 := wX Z a Sn Sm Sk T T1 U) (st1 := [.int (nI (minD (dst o t c nL) f0 6))]) (putX_5 Z a Sn Sm Sk T T1 U T1) rfl ?_)
    refine g_callS hX (con_X_orNone l Z (nI (minD (dst o t c nL) f0 6))) msX_orNone q_425 rfl (by decide) rfl (Nat.le_of_ble_eq_true rfl) dX_soonest_32 [] rfl (rfl) (g_fn (ws1 := wX Z a Sn Sm Sk T T1 U) (st1 := [.int (orNoneS (nI (minD (dst o t c nL) f0 6)))]) (rfl) rfl ?_)
    exact r_iret hX hQ dX_soonest_35 rfl (by rw [show xf_soonest Sn Sk T U (dst o t c nL) (nI f0) = ((orNoneS (nI (minD (dst o t c nL) f0 6))), Sn, Sk, T, U) from by simp [xf_soonest, c_4, nI_clamp (show f0 < 2 ^ 31 by omega)]]; exact XP_mk)
  · refine g_aload_n hX dX_soonest_7 0 rfl ?_
    refine g_iconst (v := (-1)) hX dX_soonest_8 (by decide) ?_
    refine g_callV hX (con_X_refuse l Z a Sn Sm Sk T L U (-1) 1 (by decide) (by decide) (by decide) (by decide)) mvX_refuse q_163 rfl (by decide) 0 rfl rfl rfl (Nat.le_of_ble_eq_true rfl) dX_soonest_9 [0, 1, 2, 3, 4, 5, 6, 7, 8, 9, 10, 11, 12, 13, 14, 15, 16, 17, 18, 19, 20, 21, 22, 23, 24, 25, 26, 27, 28, 29, 30, 31, 32, 33, 34, 35, 36, 37, 38, 39, 40, 41, 42, 43, 44, 45, 46, 47, 48, 49, 50, 51, 52, 53] rfl (subX_all Z a Sn Sm Sk T L U) (g_fn (ws1 := wX Z a Sn Sm Sk T L (rfU U 1)) (st1 := [.int (-1)]) (putX_all Z a Sn Sm Sk T L U Sn Sm Sk T L (rfU U 1)) rfl ?_)
    exact r_iret hX hQ dX_soonest_12 rfl (by rw [show xf_soonest Sn Sk T U (dst o t c nL) x = ((-1), Sn, Sk, T, rfU U 1) from by simp [xf_soonest, c_4]]; exact XP_mk)
set_option maxHeartbeats 400000 in
set_option maxRecDepth 20000 in
theorem con_X_farthest (l : Launch) (Z : ZZ) (a : Nat → Nat → Nat) (Sn Sm Sk T L U : St) (w : Int32) (nL : Nat) (o t c : Nat → Nat) (hL : Sn 12 0 = nI nL) (hL7 : nL ≤ 7) (hLk : Lks Sn nL o t c) : Con l Z yX_farthest cX_farthest 3 (some .int) 3 [.ref (a 0 0), .int w] (wX Z a Sn Sm Sk T L U) (XP Z a (xf_farthest Sn Sk T U (dst o t c nL) w)) := by
  refine Con.of (by decide) (Nat.le_of_ble_eq_true rfl) (fun X hX hQ => ?_)
  show G X Z (wX Z a Sn Sm Sk T L U) 0 [(0, .ref (a 0 0)), (1, .int w)] []
  refine g_iload_n hX dX_farthest_0 1 rfl ?_
  refine g_if_eq hX 16 dX_farthest_1 (by decide) (fun c_1 => ?_) (fun c_1 => ?_)
  · refine g_aload_n hX dX_farthest_16 0 rfl ?_
    refine g_get hX 0 rfl rfl 5 (by decide) uu_X q_136 rfl rfl dX_farthest_17 ?_
    refine g_aload_n hX dX_farthest_20 0 rfl ?_
    refine g_get hX 0 rfl rfl 0 (by decide) uu_X q_131 rfl rfl dX_farthest_21 ?_
    refine g_callV hX (con_W_measure l Z (a 5 0) (fun k => a 5 (k + 1)) L (a 1 0) (fun k => a 1 (k + 1)) Sn nL o t c hL hL7 hLk) mvW_measure q_410 rfl (by decide) 44 rfl rfl rfl (Nat.le_of_ble_eq_true rfl) dX_farthest_24 [44, 45, 46, 47, 48, 49, 50, 51, 52, 53, 3, 4, 5, 6, 7, 8, 9, 10, 11, 12, 13, 14, 15] rfl (subX_5_1 Z a Sn Sm Sk T L U) (fun v w hp => ?_)
    obtain ⟨rfl, T1, hM_T1, h8_T1, rfl⟩ := hp
    refine g_eq (ws1 := wX Z a Sn Sm Sk T T1 U) (st1 := []) (putX_5_1 Z a Sn Sm Sk T L U T1 Sn) rfl rfl ?_
    refine g_aload_n hX dX_farthest_27 0 rfl ?_
    refine g_get hX 0 rfl rfl 5 (by decide) uu_X q_136 rfl rfl dX_farthest_28 ?_
    refine g_callV hX (con_W_farthestRoom l Z (a 5 0) (fun k => a 5 (k + 1)) T1 (dst o t c nL) hM_T1 (dst_cap o t c nL)) mvW_farthestRoom q_441 rfl (by decide) 44 rfl rfl rfl (Nat.le_of_ble_eq_true rfl) dX_farthest_31 [44, 45, 46, 47, 48, 49, 50, 51, 52, 53] rfl (subX_5 Z a Sn Sm Sk T T1 U) (g_fn (ws1 := wX Z a Sn Sm Sk T T1 U) (st1 := [.int (frR (dst o t c nL) 6)]) (putX_5 Z a Sn Sm Sk T T1 U T1) rfl ?_)
    refine g_istore_n (lv1 := [(0, .ref (a 0 0)), (1, .int w), (2, .int (frR (dst o t c nL) 6))]) hX dX_farthest_34 (by decide) [1, 2, 0] rfl ?_
    refine g_iload_n hX dX_farthest_35 2 rfl ?_
    refine g_callS hX (con_X_isRoom l Z (frR (dst o t c nL) 6)) msX_isRoom q_318 rfl (by decide) rfl (Nat.le_of_ble_eq_true rfl) dX_farthest_36 [] rfl (rfl) (g_fn (ws1 := wX Z a Sn Sm Sk T T1 U) (st1 := [.int (isRoomS (frR (dst o t c nL) 6))]) (rfl) rfl ?_)
    refine g_if_ne hX 45 dX_farthest_39 (by decide) (fun c_39 => ?_) (fun c_39 => ?_)
    · refine g_iload_n hX dX_farthest_45 1 rfl ?_
      refine g_if_ne hX 53 dX_farthest_46 (by decide) (fun c_46 => absurd (c_1) c_46) (fun c_46 => ?_)
      refine g_iload_n hX dX_farthest_49 2 rfl ?_
      refine g_goto hX 65 dX_farthest_50 (by decide) ?_
      exact r_iret hX hQ dX_farthest_65 rfl (by rw [show xf_farthest Sn Sk T U (dst o t c nL) w = ((frR (dst o t c nL) 6), Sn, Sk, T, U) from by simp [xf_farthest, c_1, c_39, c_46]]; exact XP_mk)
    · refine g_bipush (v := (-9)) hX dX_farthest_42 (by decide) ?_
      exact r_iret hX hQ dX_farthest_44 rfl (by rw [show xf_farthest Sn Sk T U (dst o t c nL) w = ((-9), Sn, Sk, T, U) from by simp [xf_farthest, c_1, c_39]]; exact XP_mk)
  · refine g_iload_n hX dX_farthest_4 1 rfl ?_
    refine g_iconst (v := 1) hX dX_farthest_5 (by decide) ?_
    refine g_icmp_eq hX 16 dX_farthest_6 (by decide) (fun c_6 => ?_) (fun c_6 => ?_)
    · refine g_aload_n hX dX_farthest_16 0 rfl ?_
      refine g_get hX 0 rfl rfl 5 (by decide) uu_X q_136 rfl rfl dX_farthest_17 ?_
      refine g_aload_n hX dX_farthest_20 0 rfl ?_
      refine g_get hX 0 rfl rfl 0 (by decide) uu_X q_131 rfl rfl dX_farthest_21 ?_
      refine g_callV hX (con_W_measure l Z (a 5 0) (fun k => a 5 (k + 1)) L (a 1 0) (fun k => a 1 (k + 1)) Sn nL o t c hL hL7 hLk) mvW_measure q_410 rfl (by decide) 44 rfl rfl rfl (Nat.le_of_ble_eq_true rfl) dX_farthest_24 [44, 45, 46, 47, 48, 49, 50, 51, 52, 53, 3, 4, 5, 6, 7, 8, 9, 10, 11, 12, 13, 14, 15] rfl (subX_5_1 Z a Sn Sm Sk T L U) (fun v w hp => ?_)
      obtain ⟨rfl, T1, hM_T1, h8_T1, rfl⟩ := hp
      refine g_eq (ws1 := wX Z a Sn Sm Sk T T1 U) (st1 := []) (putX_5_1 Z a Sn Sm Sk T L U T1 Sn) rfl rfl ?_
      refine g_aload_n hX dX_farthest_27 0 rfl ?_
      refine g_get hX 0 rfl rfl 5 (by decide) uu_X q_136 rfl rfl dX_farthest_28 ?_
      refine g_callV hX (con_W_farthestRoom l Z (a 5 0) (fun k => a 5 (k + 1)) T1 (dst o t c nL) hM_T1 (dst_cap o t c nL)) mvW_farthestRoom q_441 rfl (by decide) 44 rfl rfl rfl (Nat.le_of_ble_eq_true rfl) dX_farthest_31 [44, 45, 46, 47, 48, 49, 50, 51, 52, 53] rfl (subX_5 Z a Sn Sm Sk T T1 U) (g_fn (ws1 := wX Z a Sn Sm Sk T T1 U) (st1 := [.int (frR (dst o t c nL) 6)]) (putX_5 Z a Sn Sm Sk T T1 U T1) rfl ?_)
      refine g_istore_n (lv1 := [(0, .ref (a 0 0)), (1, .int w), (2, .int (frR (dst o t c nL) 6))]) hX dX_farthest_34 (by decide) [1, 2, 0] rfl ?_
      refine g_iload_n hX dX_farthest_35 2 rfl ?_
      refine g_callS hX (con_X_isRoom l Z (frR (dst o t c nL) 6)) msX_isRoom q_318 rfl (by decide) rfl (Nat.le_of_ble_eq_true rfl) dX_farthest_36 [] rfl (rfl) (g_fn (ws1 := wX Z a Sn Sm Sk T T1 U) (st1 := [.int (isRoomS (frR (dst o t c nL) 6))]) (rfl) rfl ?_)
      refine g_if_ne hX 45 dX_farthest_39 (by decide) (fun c_39 => ?_) (fun c_39 => ?_)
      · refine g_iload_n hX dX_farthest_45 1 rfl ?_
        refine g_if_ne hX 53 dX_farthest_46 (by decide) (fun c_46 => ?_) (fun c_46 => absurd c_46 (c_1))
        obtain ⟨r9, hr96, hr9⟩ := isRoom_of c_39
        refine g_aload_n hX dX_farthest_53 0 rfl ?_
        refine g_get hX 0 rfl rfl 5 (by decide) uu_X q_136 rfl rfl dX_farthest_54 ?_
        refine g_get hX 44 rfl rfl 0 (by decide) uu_W q_124 rfl rfl dX_farthest_57 ?_
        refine g_bipush (v := 6) hX dX_farthest_60 (by decide) ?_
        refine g_aald (v := (fun k => a 5 (k + 1)) 6) hX 52 rfl 6 (by omega) (by decide) (rfl) (if_pos (by omega)) dX_farthest_62 ?_
        refine g_iload_n hX dX_farthest_63 2 rfl ?_
        refine g_ald (v := (nI ((dst o t c nL) 6 r9))) hX (45 + 6) (rowatX Z a Sn Sm Sk T T1 U (by omega)) r9 (by omega) (by decide) (hr9) (hM_T1 6 (by omega) r9 (by omega)) dX_farthest_64 ?_
        exact r_iret hX hQ dX_farthest_65 rfl (by rw [show xf_farthest Sn Sk T U (dst o t c nL) w = ((nI ((dst o t c nL) 6 r9)), Sn, Sk, T, U) from by simp [xf_farthest, c_1, c_6, c_39, hr9, show cl (nI r9) = r9 from nI_clamp (by omega)]; rw [← hr9]; simp [c_39]]; exact XP_mk)
      · refine g_bipush (v := (-9)) hX dX_farthest_42 (by decide) ?_
        exact r_iret hX hQ dX_farthest_44 rfl (by rw [show xf_farthest Sn Sk T U (dst o t c nL) w = ((-9), Sn, Sk, T, U) from by simp [xf_farthest, c_1, c_6, c_39]]; exact XP_mk)
    · refine g_aload_n hX dX_farthest_9 0 rfl ?_
      refine g_bipush (v := (-2)) hX dX_farthest_10 (by decide) ?_
      refine g_callV hX (con_X_refuse l Z a Sn Sm Sk T L U (-2) 2 (by decide) (by decide) (by decide) (by decide)) mvX_refuse q_163 rfl (by decide) 0 rfl rfl rfl (Nat.le_of_ble_eq_true rfl) dX_farthest_12 [0, 1, 2, 3, 4, 5, 6, 7, 8, 9, 10, 11, 12, 13, 14, 15, 16, 17, 18, 19, 20, 21, 22, 23, 24, 25, 26, 27, 28, 29, 30, 31, 32, 33, 34, 35, 36, 37, 38, 39, 40, 41, 42, 43, 44, 45, 46, 47, 48, 49, 50, 51, 52, 53] rfl (subX_all Z a Sn Sm Sk T L U) (g_fn (ws1 := wX Z a Sn Sm Sk T L (rfU U 2)) (st1 := [.int (-2)]) (putX_all Z a Sn Sm Sk T L U Sn Sm Sk T L (rfU U 2)) rfl ?_)
      exact r_iret hX hQ dX_farthest_15 rfl (by rw [show xf_farthest Sn Sk T U (dst o t c nL) w = ((-2), Sn, Sk, T, rfU U 2) from by simp [xf_farthest, c_1, c_6]]; exact XP_mk)
set_option maxHeartbeats 400000 in
set_option maxRecDepth 20000 in
theorem con_X_errands (l : Launch) (Z : ZZ) (a : Nat → Nat → Nat) (Sn Sm Sk T L U : St) (x y : Int32) (nL : Nat) (o t c : Nat → Nat) (hL : Sn 12 0 = nI nL) (hL7 : nL ≤ 7) (hLk : Lks Sn nL o t c) : Con l Z yX_errands cX_errands 3 (some .int) 3 [.ref (a 0 0), .int x, .int y] (wX Z a Sn Sm Sk T L U) (XP Z a (xf_errands Sn Sk T U (dst o t c nL) x y)) := by
  refine Con.of (by decide) (Nat.le_of_ble_eq_true rfl) (fun X hX hQ => ?_)
  show G X Z (wX Z a Sn Sm Sk T L U) 0 [(0, .ref (a 0 0)), (1, .int x), (2, .int y)] []
  refine g_iload_n hX dX_errands_0 1 rfl ?_
  refine g_callS hX (con_X_isPlace l Z x) msX_isPlace q_409 rfl (by decide) rfl (Nat.le_of_ble_eq_true rfl) dX_errands_1 [] rfl (rfl) (g_fn (ws1 := wX Z a Sn Sm Sk T L U) (st1 := [.int (isPlaceS x)]) (rfl) rfl ?_)
  refine g_if_eq hX 18 dX_errands_4 (by decide) (fun c_4 => ?_) (fun c_4 => ?_)
  · refine g_aload_n hX dX_errands_18 0 rfl ?_
    refine g_iconst (v := (-1)) hX dX_errands_19 (by decide) ?_
    refine g_callV hX (con_X_refuse l Z a Sn Sm Sk T L U (-1) 1 (by decide) (by decide) (by decide) (by decide)) mvX_refuse q_163 rfl (by decide) 0 rfl rfl rfl (Nat.le_of_ble_eq_true rfl) dX_errands_20 [0, 1, 2, 3, 4, 5, 6, 7, 8, 9, 10, 11, 12, 13, 14, 15, 16, 17, 18, 19, 20, 21, 22, 23, 24, 25, 26, 27, 28, 29, 30, 31, 32, 33, 34, 35, 36, 37, 38, 39, 40, 41, 42, 43, 44, 45, 46, 47, 48, 49, 50, 51, 52, 53] rfl (subX_all Z a Sn Sm Sk T L U) (g_fn (ws1 := wX Z a Sn Sm Sk T L (rfU U 1)) (st1 := [.int (-1)]) (putX_all Z a Sn Sm Sk T L U Sn Sm Sk T L (rfU U 1)) rfl ?_)
    exact r_iret hX hQ dX_errands_23 rfl (by rw [show xf_errands Sn Sk T U (dst o t c nL) x y = ((-1), Sn, Sk, T, rfU U 1) from by simp [xf_errands, c_4]]; exact XP_mk)
  · refine g_iload_n hX dX_errands_7 2 rfl ?_
    refine g_if_lt hX 18 dX_errands_8 (by decide) (fun c_8 => ?_) (fun c_8 => ?_)
    · refine g_aload_n hX dX_errands_18 0 rfl ?_
      refine g_iconst (v := (-1)) hX dX_errands_19 (by decide) ?_
      refine g_callV hX (con_X_refuse l Z a Sn Sm Sk T L U (-1) 1 (by decide) (by decide) (by decide) (by decide)) mvX_refuse q_163 rfl (by decide) 0 rfl rfl rfl (Nat.le_of_ble_eq_true rfl) dX_errands_20 [0, 1, 2, 3, 4, 5, 6, 7, 8, 9, 10, 11, 12, 13, 14, 15, 16, 17, 18, 19, 20, 21, 22, 23, 24, 25, 26, 27, 28, 29, 30, 31, 32, 33, 34, 35, 36, 37, 38, 39, 40, 41, 42, 43, 44, 45, 46, 47, 48, 49, 50, 51, 52, 53] rfl (subX_all Z a Sn Sm Sk T L U) (g_fn (ws1 := wX Z a Sn Sm Sk T L (rfU U 1)) (st1 := [.int (-1)]) (putX_all Z a Sn Sm Sk T L U Sn Sm Sk T L (rfU U 1)) rfl ?_)
      exact r_iret hX hQ dX_errands_23 rfl (by rw [show xf_errands Sn Sk T U (dst o t c nL) x y = ((-1), Sn, Sk, T, rfU U 1) from by simp [xf_errands, c_4, c_8]]; exact XP_mk)
    · refine g_iload_n hX dX_errands_11 2 rfl ?_
      refine g_sipush (v := 128) hX dX_errands_12 (by decide) ?_
      refine g_icmp_lt hX 24 dX_errands_15 (by decide) (fun c_15 => ?_) (fun c_15 => ?_)
      · obtain ⟨f0, hf07, rfl⟩ := isPlace_of c_4
        obtain ⟨pl, hpl, rfl⟩ := plc_of c_8 c_15
        refine g_aload_n hX dX_errands_24 0 rfl ?_
        refine g_get hX 0 rfl rfl 5 (by decide) uu_X q_136 rfl rfl dX_errands_25 ?_
        refine g_aload_n hX dX_errands_28 0 rfl ?_
        refine g_get hX 0 rfl rfl 0 (by decide) uu_X q_131 rfl rfl dX_errands_29 ?_
        refine g_callV hX (con_W_measure l Z (a 5 0) (fun k => a 5 (k + 1)) L (a 1 0) (fun k => a 1 (k + 1)) Sn nL o t c hL hL7 hLk) mvW_measure q_410 rfl (by decide) 44 rfl rfl rfl (Nat.le_of_ble_eq_true rfl) dX_errands_32 [44, 45, 46, 47, 48, 49, 50, 51, 52, 53, 3, 4, 5, 6, 7, 8, 9, 10, 11, 12, 13, 14, 15] rfl (subX_5_1 Z a Sn Sm Sk T L U) (fun v w hp => ?_)
        obtain ⟨rfl, T1, hM_T1, h8_T1, rfl⟩ := hp
        refine g_eq (ws1 := wX Z a Sn Sm Sk T T1 U) (st1 := []) (putX_5_1 Z a Sn Sm Sk T L U T1 Sn) rfl rfl ?_
        refine g_aload_n hX dX_errands_35 0 rfl ?_
        refine g_get hX 0 rfl rfl 5 (by decide) uu_X q_136 rfl rfl dX_errands_36 ?_
        refine g_iload_n hX dX_errands_39 1 rfl ?_
        refine g_iload_n hX dX_errands_40 2 rfl ?_
        refine g_callV hX (con_W_errandsFrom l Z (a 5 0) (fun k => a 5 (k + 1)) T1 (dst o t c nL) hM_T1 (dst_cap o t c nL) f0 pl hf07 hpl) mvW_errandsFrom q_466 rfl (by decide) 44 rfl rfl rfl (Nat.le_of_ble_eq_true rfl) dX_errands_41 [44, 45, 46, 47, 48, 49, 50, 51, 52, 53] rfl (subX_5 Z a Sn Sm Sk T T1 U) (fun v w hp => ?_)
        obtain ⟨rfl, T2, hM_T2, rfl⟩ := hp
        refine g_eq (ws1 := wX Z a Sn Sm Sk T T2 U) (st1 := [.int (nI (errD (dst o t c nL) f0 pl))]) (putX_5 Z a Sn Sm Sk T T1 U T2) rfl rfl ?_
        refine g_callS hX (con_X_orNone l Z (nI (errD (dst o t c nL) f0 pl))) msX_orNone q_425 rfl (by decide) rfl (Nat.le_of_ble_eq_true rfl) dX_errands_44 [] rfl (rfl) (g_fn (ws1 := wX Z a Sn Sm Sk T T2 U) (st1 := [.int (orNoneS (nI (errD (dst o t c nL) f0 pl)))]) (rfl) rfl ?_)
        exact r_iret hX hQ dX_errands_47 rfl (by rw [show xf_errands Sn Sk T U (dst o t c nL) (nI f0) (nI pl) = ((orNoneS (nI (errD (dst o t c nL) f0 pl))), Sn, Sk, T, U) from by simp [xf_errands, c_4, c_8, c_15, nI_clamp (show f0 < 2 ^ 31 by omega), nI_clamp (show pl < 2 ^ 31 by omega)]]; exact XP_mk)
      · refine g_aload_n hX dX_errands_18 0 rfl ?_
        refine g_iconst (v := (-1)) hX dX_errands_19 (by decide) ?_
        refine g_callV hX (con_X_refuse l Z a Sn Sm Sk T L U (-1) 1 (by decide) (by decide) (by decide) (by decide)) mvX_refuse q_163 rfl (by decide) 0 rfl rfl rfl (Nat.le_of_ble_eq_true rfl) dX_errands_20 [0, 1, 2, 3, 4, 5, 6, 7, 8, 9, 10, 11, 12, 13, 14, 15, 16, 17, 18, 19, 20, 21, 22, 23, 24, 25, 26, 27, 28, 29, 30, 31, 32, 33, 34, 35, 36, 37, 38, 39, 40, 41, 42, 43, 44, 45, 46, 47, 48, 49, 50, 51, 52, 53] rfl (subX_all Z a Sn Sm Sk T L U) (g_fn (ws1 := wX Z a Sn Sm Sk T L (rfU U 1)) (st1 := [.int (-1)]) (putX_all Z a Sn Sm Sk T L U Sn Sm Sk T L (rfU U 1)) rfl ?_)
        exact r_iret hX hQ dX_errands_23 rfl (by rw [show xf_errands Sn Sk T U (dst o t c nL) x y = ((-1), Sn, Sk, T, rfU U 1) from by simp [xf_errands, c_4, c_8, c_15]]; exact XP_mk)
set_option maxHeartbeats 400000 in
set_option maxRecDepth 20000 in
theorem con_X_longestWith (l : Launch) (Z : ZZ) (a : Nat → Nat → Nat) (Sn Sm Sk T L U : St) (x : Int32) (D : Nat → Nat → Nat) (hM : Mat L D) (hC : Cap D) (hx : x < 0 ∨ ∃ p q, p < 7 ∧ q < 7 ∧ x = nI (10 * p + q)) : Con l Z yX_longestWith cX_longestWith 2 (some .int) 2 [.ref (a 0 0), .int x] (wX Z a Sn Sm Sk T L U) (Fn (some (.int (lw9 D x))) (wX Z a Sn Sm Sk T L U)) := by
  refine Con.of (by decide) (Nat.le_of_ble_eq_true rfl) (fun X hX hQ => ?_)
  show G X Z (wX Z a Sn Sm Sk T L U) 0 [(0, .ref (a 0 0)), (1, .int x)] []
  refine g_iload_n hX dX_longestWith_0 1 rfl ?_
  refine g_if_ge hX 9 dX_longestWith_1 (by decide) (fun c_1 => ?_) (fun c_1 => ?_)
  · obtain ⟨p0, q0, hp0, hq0, rfl⟩ := hx.resolve_left (Int32.not_lt.mpr c_1)
    refine g_aload_n hX dX_longestWith_9 0 rfl ?_
    refine g_get hX 0 rfl rfl 5 (by decide) uu_X q_136 rfl rfl dX_longestWith_10 ?_
    refine g_iload_n hX dX_longestWith_13 1 rfl ?_
    refine g_bipush (v := 10) hX dX_longestWith_14 (by decide) ?_
    refine g_idiv (z := (nI p0)) hX dX_longestWith_16 (by decide) (div10 hp0 hq0) ?_
    refine g_iload_n hX dX_longestWith_17 1 rfl ?_
    refine g_bipush (v := 10) hX dX_longestWith_18 (by decide) ?_
    refine g_irem (z := (nI q0)) hX dX_longestWith_20 (by decide) (rem10 hp0 hq0) ?_
    refine g_callV hX (con_W_longestWith l Z (a 5 0) (fun k => a 5 (k + 1)) L D hM hC p0 q0 hp0 hq0) mvW_longestWith q_457 rfl (by decide) 44 rfl rfl rfl (Nat.le_of_ble_eq_true rfl) dX_longestWith_21 [44, 45, 46, 47, 48, 49, 50, 51, 52, 53] rfl (subX_5 Z a Sn Sm Sk T L U) (g_fn (ws1 := wX Z a Sn Sm Sk T L U) (st1 := [.int (nI (lwD D p0 q0 6))]) (putX_5 Z a Sn Sm Sk T L U L) rfl ?_)
    exact r_iret hX hQ dX_longestWith_24 rfl (⟨by rw [lw9_nat hp0 hq0], rfl⟩)
  · refine g_ldc hX dX_longestWith_4 q_428 ?_
    refine g_goto hX 24 dX_longestWith_6 (by decide) ?_
    exact r_iret hX hQ dX_longestWith_24 rfl (⟨congrArg some (congrArg Value.int (if_neg c_1).symm), rfl⟩)
set_option maxHeartbeats 400000 in
set_option maxRecDepth 20000 in
theorem con_X_bestNewLock (l : Launch) (Z : ZZ) (a : Nat → Nat → Nat) (Sn Sm Sk T L U : St) (D : Nat → Nat → Nat) (hM : Mat L D) (hC : Cap D) : Con l Z yX_bestNewLock cX_bestNewLock 6 (some .int) 3 [.ref (a 0 0)] (wX Z a Sn Sm Sk T L U) (Fn (some (.int (bnO D 7).1)) (wX Z a Sn Sm Sk T L U)) := by
  refine Con.of (by decide) (Nat.le_of_ble_eq_true rfl) (fun X hX hQ => ?_)
  show G X Z (wX Z a Sn Sm Sk T L U) 0 [(0, .ref (a 0 0))] []
  refine g_bipush (v := (-9)) hX dX_bestNewLock_0 (by decide) ?_
  refine g_istore_n (lv1 := [(0, .ref (a 0 0)), (1, .int (-9))]) hX dX_bestNewLock_2 (by decide) [1, 0] rfl ?_
  refine g_ldc hX dX_bestNewLock_3 q_428 ?_
  refine g_istore_n (lv1 := [(0, .ref (a 0 0)), (1, .int (-9)), (2, .int 1000000)]) hX dX_bestNewLock_5 (by decide) [1, 2, 0] rfl ?_
  refine g_iconst (v := 0) hX dX_bestNewLock_6 (by decide) ?_
  refine g_istore_n (lv1 := [(0, .ref (a 0 0)), (1, .int (-9)), (2, .int 1000000), (3, .int 0)]) hX dX_bestNewLock_7 (by decide) [1, 2, 3, 0] rfl ?_
  have hL_8 : ∀ i0, i0 ≤ 7 → ∀ (b0 : Int32) (e9 : Nat), bnO D i0 = (b0, e9) → G X Z (wX Z a Sn Sm Sk T L U) 8 [(0, .ref (a 0 0)), (1, .int b0), (2, .int (nI e9)), (3, .int (nI i0))] [] := by
    refine loopUp _ 7 ?_ (fun i0 hi_i0 ih_i0 => ?_)
    · intro b0 e9 hq_i0
      refine g_iload_n hX dX_bestNewLock_8 3 rfl ?_
      refine g_bipush (v := 7) hX dX_bestNewLock_9 (by decide) ?_
      refine g_icmp_ge hX 68 dX_bestNewLock_11 (by decide) (fun c_11 => ?_) (fun c_11 => absurd (nI_le (a := 7) (b := 7) (Nat.le_refl _) (by omega)) c_11)
      refine g_iload_n hX dX_bestNewLock_68 1 rfl ?_
      exact r_iret hX hQ dX_bestNewLock_69 rfl (⟨by rw [hq_i0], rfl⟩)
    · intro b0 e9 hq_i0
      refine g_iload_n hX dX_bestNewLock_8 3 rfl ?_
      refine g_bipush (v := 7) hX dX_bestNewLock_9 (by decide) ?_
      refine g_icmp_ge hX 68 dX_bestNewLock_11 (by decide) (fun c_11 => absurd c_11 (nI_ge (a := i0) (b := 7) hi_i0 (by omega))) (fun c_11 => ?_)
      refine g_iload_n hX dX_bestNewLock_14 3 rfl ?_
      refine g_iconst (v := 1) hX dX_bestNewLock_15 (by decide) ?_
      refine g_iadd (z := (nI (i0 + 1))) hX dX_bestNewLock_16 (nI_add i0 1) ?_
      refine g_istore (lv1 := [(0, .ref (a 0 0)), (1, .int b0), (2, .int (nI e9)), (3, .int (nI i0)), (4, .int (nI (i0 + 1)))]) hX dX_bestNewLock_17 (by decide) [1, 2, 3, 4, 0] rfl ?_
      have hL_19 : ∀ k1, k1 ≤ 7 → ∀ (b1 : Int32) (e1 : Nat), bnI D i0 (bnO D i0) k1 = (b1, e1) ∧ i0 < k1 → G X Z (wX Z a Sn Sm Sk T L U) 19 [(0, .ref (a 0 0)), (1, .int b1), (2, .int (nI e1)), (3, .int (nI i0)), (4, .int (nI k1))] [] := by
        refine loopUp _ 7 ?_ (fun k1 hi_k1 ih_k1 => ?_)
        · intro b1 e1 hq_k1
          refine g_iload hX dX_bestNewLock_19 4 rfl ?_
          refine g_bipush (v := 7) hX dX_bestNewLock_21 (by decide) ?_
          refine g_icmp_ge hX 62 dX_bestNewLock_23 (by decide) (fun c_23 => ?_) (fun c_23 => absurd (nI_le (a := 7) (b := 7) (Nat.le_refl _) (by omega)) c_23)
          refine g_iinc (v := (nI (i0 + 1))) (lv1 := [(0, .ref (a 0 0)), (1, .int b1), (2, .int (nI e1)), (3, .int (nI (i0 + 1))), (4, .int (nI 7))]) hX dX_bestNewLock_62 3 rfl (inc_nat _) (by decide) [1, 2, 3, 0, 4] rfl ?_
          refine g_goto hX 8 dX_bestNewLock_65 (by decide) ?_
          refine g_lv (lv1 := [(0, .ref (a 0 0)), (1, .int b1), (2, .int (nI e1)), (3, .int (nI (i0 + 1)))]) [0, 1, 2, 3] rfl ?_
          exact ih_i0 b1 e1 (hq_k1.1)
        · intro b1 e1 hq_k1
          refine g_iload hX dX_bestNewLock_19 4 rfl ?_
          refine g_bipush (v := 7) hX dX_bestNewLock_21 (by decide) ?_
          refine g_icmp_ge hX 62 dX_bestNewLock_23 (by decide) (fun c_23 => absurd c_23 (nI_ge (a := k1) (b := 7) hi_k1 (by omega))) (fun c_23 => ?_)
          refine g_aload_n hX dX_bestNewLock_26 0 rfl ?_
          refine g_bipush (v := 10) hX dX_bestNewLock_27 (by decide) ?_
          refine g_iload_n hX dX_bestNewLock_29 3 rfl ?_
          refine g_imul (z := (nI (10 * i0))) hX dX_bestNewLock_30 (pk_mul 10 i0) ?_
          refine g_iload hX dX_bestNewLock_31 4 rfl ?_
          refine g_iadd (z := (nI ((10 * i0) + k1))) hX dX_bestNewLock_33 (nI_add (10 * i0) k1) ?_
          refine g_callV hX (con_X_longestWith l Z a Sn Sm Sk T L U (nI ((10 * i0) + k1)) D hM hC (Or.inr ⟨i0, k1, hi_i0, hi_k1, rfl⟩)) mvX_longestWith q_453 rfl (by decide) 0 rfl rfl rfl (Nat.le_of_ble_eq_true rfl) dX_bestNewLock_34 [0, 1, 2, 3, 4, 5, 6, 7, 8, 9, 10, 11, 12, 13, 14, 15, 16, 17, 18, 19, 20, 21, 22, 23, 24, 25, 26, 27, 28, 29, 30, 31, 32, 33, 34, 35, 36, 37, 38, 39, 40, 41, 42, 43, 44, 45, 46, 47, 48, 49, 50, 51, 52, 53] rfl (subX_all Z a Sn Sm Sk T L U) (g_fn (ws1 := wX Z a Sn Sm Sk T L U) (st1 := [.int (lw9 D (nI ((10 * i0) + k1)))]) (putX_all Z a Sn Sm Sk T L U Sn Sm Sk T L U) rfl ?_)
          refine g_top (y := (nI (lwD D i0 k1 6))) (lw9_nat hi_i0 hi_k1) ?_
          refine g_istore (lv1 := [(0, .ref (a 0 0)), (1, .int b1), (2, .int (nI e1)), (3, .int (nI i0)), (4, .int (nI k1)), (5, .int (nI (lwD D i0 k1 6)))]) hX dX_bestNewLock_37 (by decide) [1, 2, 3, 4, 5, 0] rfl ?_
          refine g_iload hX dX_bestNewLock_39 5 rfl ?_
          refine g_iload_n hX dX_bestNewLock_41 2 rfl ?_
          refine g_icmp_ge hX 56 dX_bestNewLock_42 (by decide) (fun c_42 => ?_) (fun c_42 => ?_)
          · refine g_iinc (v := (nI (k1 + 1))) (lv1 := [(0, .ref (a 0 0)), (1, .int b1), (2, .int (nI e1)), (3, .int (nI i0)), (4, .int (nI (k1 + 1))), (5, .int (nI (lwD D i0 k1 6)))]) hX dX_bestNewLock_56 4 rfl (inc_nat _) (by decide) [1, 2, 3, 4, 0, 5] rfl ?_
            refine g_goto hX 19 dX_bestNewLock_59 (by decide) ?_
            refine g_lv (lv1 := [(0, .ref (a 0 0)), (1, .int b1), (2, .int (nI e1)), (3, .int (nI i0)), (4, .int (nI (k1 + 1)))]) [0, 1, 2, 3, 4] rfl ?_
            exact ih_k1 b1 e1 (⟨bn_keep hC hq_k1.1 (bnO_le D i0) c_42, by omega⟩)
          · refine g_iload hX dX_bestNewLock_45 5 rfl ?_
            refine g_istore_n (lv1 := [(0, .ref (a 0 0)), (1, .int b1), (2, .int (nI (lwD D i0 k1 6))), (3, .int (nI i0)), (4, .int (nI k1)), (5, .int (nI (lwD D i0 k1 6)))]) hX dX_bestNewLock_47 (by decide) [1, 2, 0, 3, 4, 5] rfl ?_
            refine g_bipush (v := 10) hX dX_bestNewLock_48 (by decide) ?_
            refine g_iload_n hX dX_bestNewLock_50 3 rfl ?_
            refine g_imul (z := (nI (10 * i0))) hX dX_bestNewLock_51 (pk_mul 10 i0) ?_
            refine g_iload hX dX_bestNewLock_52 4 rfl ?_
            refine g_iadd (z := (nI ((10 * i0) + k1))) hX dX_bestNewLock_54 (nI_add (10 * i0) k1) ?_
            refine g_istore_n (lv1 := [(0, .ref (a 0 0)), (1, .int (nI ((10 * i0) + k1))), (2, .int (nI (lwD D i0 k1 6))), (3, .int (nI i0)), (4, .int (nI k1)), (5, .int (nI (lwD D i0 k1 6)))]) hX dX_bestNewLock_55 (by decide) [1, 0, 2, 3, 4, 5] rfl ?_
            refine g_iinc (v := (nI (k1 + 1))) (lv1 := [(0, .ref (a 0 0)), (1, .int (nI ((10 * i0) + k1))), (2, .int (nI (lwD D i0 k1 6))), (3, .int (nI i0)), (4, .int (nI (k1 + 1))), (5, .int (nI (lwD D i0 k1 6)))]) hX dX_bestNewLock_56 4 rfl (inc_nat _) (by decide) [1, 2, 3, 4, 0, 5] rfl ?_
            refine g_goto hX 19 dX_bestNewLock_59 (by decide) ?_
            refine g_lv (lv1 := [(0, .ref (a 0 0)), (1, .int (nI ((10 * i0) + k1))), (2, .int (nI (lwD D i0 k1 6))), (3, .int (nI i0)), (4, .int (nI (k1 + 1)))]) [0, 1, 2, 3, 4] rfl ?_
            exact ih_k1 (nI ((10 * i0) + k1)) (lwD D i0 k1 6) (⟨bn_new hC hq_k1.1 (bnO_le D i0) hq_k1.2 c_42, by omega⟩)
      exact hL_19 (i0 + 1) (by omega) b0 e9 (⟨by rw [bnI_start D i0 _ _ (Nat.le_refl _)]; exact hq_i0, by omega⟩)
  exact hL_8 0 (Nat.zero_le _) (-9) 1000000 (rfl)
set_option maxHeartbeats 400000 in
set_option maxRecDepth 20000 in
theorem con_X_more (l : Launch) (Z : ZZ) (a : Nat → Nat → Nat) (Sn Sm Sk T L U : St) (w : Int32) (nL : Nat) (o t c : Nat → Nat) (hL : Sn 12 0 = nI nL) (hL7 : nL ≤ 7) (hLk : Lks Sn nL o t c) : Con l Z yX_more cX_more 2 (some .int) 4 [.ref (a 0 0), .int w] (wX Z a Sn Sm Sk T L U) (XP Z a (xf_more Sn Sk T U (dst o t c nL) w)) := by
  refine Con.of (by decide) (Nat.le_of_ble_eq_true rfl) (fun X hX hQ => ?_)
  show G X Z (wX Z a Sn Sm Sk T L U) 0 [(0, .ref (a 0 0)), (1, .int w)] []
  refine g_iload_n hX dX_more_0 1 rfl ?_
  refine g_if_eq hX 16 dX_more_1 (by decide) (fun c_1 => ?_) (fun c_1 => ?_)
  · refine g_aload_n hX dX_more_16 0 rfl ?_
    refine g_get hX 0 rfl rfl 5 (by decide) uu_X q_136 rfl rfl dX_more_17 ?_
    refine g_aload_n hX dX_more_20 0 rfl ?_
    refine g_get hX 0 rfl rfl 0 (by decide) uu_X q_131 rfl rfl dX_more_21 ?_
    refine g_callV hX (con_W_measure l Z (a 5 0) (fun k => a 5 (k + 1)) L (a 1 0) (fun k => a 1 (k + 1)) Sn nL o t c hL hL7 hLk) mvW_measure q_410 rfl (by decide) 44 rfl rfl rfl (Nat.le_of_ble_eq_true rfl) dX_more_24 [44, 45, 46, 47, 48, 49, 50, 51, 52, 53, 3, 4, 5, 6, 7, 8, 9, 10, 11, 12, 13, 14, 15] rfl (subX_5_1 Z a Sn Sm Sk T L U) (fun v w hp => ?_)
    obtain ⟨rfl, T1, hM_T1, h8_T1, rfl⟩ := hp
    refine g_eq (ws1 := wX Z a Sn Sm Sk T T1 U) (st1 := []) (putX_5_1 Z a Sn Sm Sk T L U T1 Sn) rfl rfl ?_
    refine g_iload_n hX dX_more_27 1 rfl ?_
    refine g_if_ne hX 38 dX_more_28 (by decide) (fun c_28 => absurd (c_1) c_28) (fun c_28 => ?_)
    refine g_aload_n hX dX_more_31 0 rfl ?_
    refine g_callV hX (con_X_bestNewLock l Z a Sn Sm Sk T T1 U (dst o t c nL) hM_T1 (dst_cap o t c nL)) mvX_bestNewLock q_449 rfl (by decide) 0 rfl rfl rfl (Nat.le_of_ble_eq_true rfl) dX_more_32 [0, 1, 2, 3, 4, 5, 6, 7, 8, 9, 10, 11, 12, 13, 14, 15, 16, 17, 18, 19, 20, 21, 22, 23, 24, 25, 26, 27, 28, 29, 30, 31, 32, 33, 34, 35, 36, 37, 38, 39, 40, 41, 42, 43, 44, 45, 46, 47, 48, 49, 50, 51, 52, 53] rfl (subX_all Z a Sn Sm Sk T T1 U) (g_fn (ws1 := wX Z a Sn Sm Sk T T1 U) (st1 := [.int ((bnO (dst o t c nL) 7).1)]) (putX_all Z a Sn Sm Sk T T1 U Sn Sm Sk T T1 U) rfl ?_)
    refine g_goto hX 49 dX_more_35 (by decide) ?_
    exact r_iret hX hQ dX_more_49 rfl (by rw [show xf_more Sn Sk T U (dst o t c nL) w = (((bnO (dst o t c nL) 7).1), Sn, Sk, T, U) from by simp [xf_more, c_1, c_28]]; exact XP_mk)
  · refine g_iload_n hX dX_more_4 1 rfl ?_
    refine g_iconst (v := 1) hX dX_more_5 (by decide) ?_
    refine g_icmp_eq hX 16 dX_more_6 (by decide) (fun c_6 => ?_) (fun c_6 => ?_)
    · refine g_aload_n hX dX_more_16 0 rfl ?_
      refine g_get hX 0 rfl rfl 5 (by decide) uu_X q_136 rfl rfl dX_more_17 ?_
      refine g_aload_n hX dX_more_20 0 rfl ?_
      refine g_get hX 0 rfl rfl 0 (by decide) uu_X q_131 rfl rfl dX_more_21 ?_
      refine g_callV hX (con_W_measure l Z (a 5 0) (fun k => a 5 (k + 1)) L (a 1 0) (fun k => a 1 (k + 1)) Sn nL o t c hL hL7 hLk) mvW_measure q_410 rfl (by decide) 44 rfl rfl rfl (Nat.le_of_ble_eq_true rfl) dX_more_24 [44, 45, 46, 47, 48, 49, 50, 51, 52, 53, 3, 4, 5, 6, 7, 8, 9, 10, 11, 12, 13, 14, 15] rfl (subX_5_1 Z a Sn Sm Sk T L U) (fun v w hp => ?_)
      obtain ⟨rfl, T1, hM_T1, h8_T1, rfl⟩ := hp
      refine g_eq (ws1 := wX Z a Sn Sm Sk T T1 U) (st1 := []) (putX_5_1 Z a Sn Sm Sk T L U T1 Sn) rfl rfl ?_
      refine g_iload_n hX dX_more_27 1 rfl ?_
      refine g_if_ne hX 38 dX_more_28 (by decide) (fun c_28 => ?_) (fun c_28 => absurd c_28 (c_1))
      refine g_aload_n hX dX_more_38 0 rfl ?_
      refine g_aload_n hX dX_more_39 0 rfl ?_
      refine g_callV hX (con_X_bestNewLock l Z a Sn Sm Sk T T1 U (dst o t c nL) hM_T1 (dst_cap o t c nL)) mvX_bestNewLock q_449 rfl (by decide) 0 rfl rfl rfl (Nat.le_of_ble_eq_true rfl) dX_more_40 [0, 1, 2, 3, 4, 5, 6, 7, 8, 9, 10, 11, 12, 13, 14, 15, 16, 17, 18, 19, 20, 21, 22, 23, 24, 25, 26, 27, 28, 29, 30, 31, 32, 33, 34, 35, 36, 37, 38, 39, 40, 41, 42, 43, 44, 45, 46, 47, 48, 49, 50, 51, 52, 53] rfl (subX_all Z a Sn Sm Sk T T1 U) (g_fn (ws1 := wX Z a Sn Sm Sk T T1 U) (st1 := [.int ((bnO (dst o t c nL) 7).1), .ref (a 0 0)]) (putX_all Z a Sn Sm Sk T T1 U Sn Sm Sk T T1 U) rfl ?_)
      refine g_callV hX (con_X_longestWith l Z a Sn Sm Sk T T1 U ((bnO (dst o t c nL) 7).1) (dst o t c nL) hM_T1 (dst_cap o t c nL) (bnO_form (dst o t c nL) 7 (Nat.le_refl _))) mvX_longestWith q_453 rfl (by decide) 0 rfl rfl rfl (Nat.le_of_ble_eq_true rfl) dX_more_43 [0, 1, 2, 3, 4, 5, 6, 7, 8, 9, 10, 11, 12, 13, 14, 15, 16, 17, 18, 19, 20, 21, 22, 23, 24, 25, 26, 27, 28, 29, 30, 31, 32, 33, 34, 35, 36, 37, 38, 39, 40, 41, 42, 43, 44, 45, 46, 47, 48, 49, 50, 51, 52, 53] rfl (subX_all Z a Sn Sm Sk T T1 U) (g_fn (ws1 := wX Z a Sn Sm Sk T T1 U) (st1 := [.int (lw9 (dst o t c nL) ((bnO (dst o t c nL) 7).1))]) (putX_all Z a Sn Sm Sk T T1 U Sn Sm Sk T T1 U) rfl ?_)
      refine g_callS hX (con_X_orNone l Z (lw9 (dst o t c nL) ((bnO (dst o t c nL) 7).1))) msX_orNone q_425 rfl (by decide) rfl (Nat.le_of_ble_eq_true rfl) dX_more_46 [] rfl (rfl) (g_fn (ws1 := wX Z a Sn Sm Sk T T1 U) (st1 := [.int (orNoneS (lw9 (dst o t c nL) ((bnO (dst o t c nL) 7).1)))]) (rfl) rfl ?_)
      exact r_iret hX hQ dX_more_49 rfl (by rw [show xf_more Sn Sk T U (dst o t c nL) w = ((orNoneS (lw9 (dst o t c nL) ((bnO (dst o t c nL) 7).1))), Sn, Sk, T, U) from by simp [xf_more, c_1, c_6, c_28]]; exact XP_mk)
    · refine g_aload_n hX dX_more_9 0 rfl ?_
      refine g_bipush (v := (-2)) hX dX_more_10 (by decide) ?_
      refine g_callV hX (con_X_refuse l Z a Sn Sm Sk T L U (-2) 2 (by decide) (by decide) (by decide) (by decide)) mvX_refuse q_163 rfl (by decide) 0 rfl rfl rfl (Nat.le_of_ble_eq_true rfl) dX_more_12 [0, 1, 2, 3, 4, 5, 6, 7, 8, 9, 10, 11, 12, 13, 14, 15, 16, 17, 18, 19, 20, 21, 22, 23, 24, 25, 26, 27, 28, 29, 30, 31, 32, 33, 34, 35, 36, 37, 38, 39, 40, 41, 42, 43, 44, 45, 46, 47, 48, 49, 50, 51, 52, 53] rfl (subX_all Z a Sn Sm Sk T L U) (g_fn (ws1 := wX Z a Sn Sm Sk T L (rfU U 2)) (st1 := [.int (-2)]) (putX_all Z a Sn Sm Sk T L U Sn Sm Sk T L (rfU U 2)) rfl ?_)
      exact r_iret hX hQ dX_more_15 rfl (by rw [show xf_more Sn Sk T U (dst o t c nL) w = ((-2), Sn, Sk, T, rfU U 2) from by simp [xf_more, c_1, c_6]]; exact XP_mk)

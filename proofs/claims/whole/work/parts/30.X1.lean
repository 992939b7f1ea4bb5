/-! the class itself: first calls -/
abbrev XR : Type := Int32 × St × St × St × St
/-- an answer, and what stands behind it, but for what is in mind and the ways -/
def XP (Z : ZZ) (a : Nat → Nat → Nat) (r : XR) : Option Value → va_W → Prop := fun v ws => v = some (.int r.1) ∧ ∃ Sm L, ws = wX Z a r.2.1 Sm r.2.2.1 r.2.2.2.1 L r.2.2.2.2
def rfU (U : St) (k : Nat) : St := sw U 2 k (U 2 k + 1)
def xf_letter (Sn Sk T U : St) (nT : Nat) (c : Int32) : XR := if 0 ≤ c then (if 255 < c then (-6, Sn, Sk, T, rfU U 6) else if nI nT < 96 then (nI (nT + 1), Sn, Sk, addT T nT c, U) else (-6, Sn, Sk, T, rfU U 6)) else (-4, Sn, Sk, T, rfU U 4)
def xf_room (Sn Sk T U : St) (nP : Nat) (x w : Int32) : XR := if isRoomS x = 0 then (-1, Sn, Sk, T, rfU U 1) else if w = 0 then (Sn 0 (cl x), Sn, Sk, T, U) else if w = 1 then (Sn 1 (cl x), Sn, Sk, T, U) else if w = 2 then (cnt (Sn 8) x nP, Sn, Sk, T, U) else if w = 3 then (breathInS Sn nP x, Sn, Sk, T, U) else (-2, Sn, Sk, T, rfU U 2)
def xf_lock (Sn Sk T U : St) (x w : Int32) : XR := if hasLockS Sn x = 0 then (-1, Sn, Sk, T, rfU U 1) else if w = 0 then (Sn 2 (cl x), Sn, Sk, T, U) else if w = 1 then (Sn 3 (cl x), Sn, Sk, T, U) else if w = 2 then (Sn 4 (cl x), Sn, Sk, T, U) else if w = 3 then (Sn 5 (cl x), Sn, Sk, T, U) else if w = 4 then (Sn 6 (cl x), Sn, Sk, T, U) else (-2, Sn, Sk, T, rfU U 2)
def breathOfS (S : St) (nP : Nat) (x : Int32) : Int32 := if hasPersonS S x = 0 then 0 else if isRoomS (S 8 (cl x)) = 0 then 0 else bk (S 7 (cl x)) (al (cnt (S 8) (S 8 (cl x)) nP))
def xf_person (Sn Sk T U : St) (nP : Nat) (x w : Int32) : XR := if hasPersonS Sn x = 0 then (-1, Sn, Sk, T, rfU U 1) else if w = 0 then (Sn 7 (cl x), Sn, Sk, T, U) else if w = 1 then (Sn 8 (cl x), Sn, Sk, T, U) else if w = 2 then (Sn 9 (cl x), Sn, Sk, T, U) else if w = 3 then (Sn 10 (cl x), Sn, Sk, T, U) else if w = 4 then (breathOfS Sn nP x, Sn, Sk, T, U) else (-2, Sn, Sk, T, rfU U 2)
def xf_open (Sn Sk T U : St) (x w : Int32) : XR := if hasLockS Sn x = 0 then (-1, Sn, Sk, T, rfU U 1) else if w < 0 then (-2, Sn, Sk, T, rfU U 2) else if w ≤ 2 then (if w = 0 then (Sn 6 (cl x), sw Sn 6 (cl x) w, Sk, T, U) else if Sn 6 (cl x) = 0 then (Sn 6 (cl x), sw Sn 6 (cl x) w, Sk, T, U) else if Sn 6 (cl x) = w then (Sn 6 (cl x), sw Sn 6 (cl x) w, Sk, T, U) else (-3, Sn, Sk, T, rfU U 3)) else (-2, Sn, Sk, T, rfU U 2)
def xf_leak (Sn Sk T U : St) (x v : Int32) : XR := if isRoomS x = 0 then (-1, Sn, Sk, T, rfU U 1) else if 0 ≤ v then (if v ≤ 9 then (Sn 1 (cl x), sw Sn 1 (cl x) v, Sk, T, U) else (-6, Sn, Sk, T, rfU U 6)) else (-4, Sn, Sk, T, rfU U 4)
def xf_minutes (Sn Sk T U : St) (nP : Nat) (x : Int32) : XR := if 1 ≤ x then (if 99 < x then (-6, Sn, Sk, T, rfU U 6) else if Sn 12 2 + x ≤ 999 then (liveN nP Sn (cl x) 12 3 - Sn 12 3, liveN nP Sn (cl x), Sk, T, U) else (-6, Sn, Sk, T, rfU U 6)) else (-4, Sn, Sk, T, rfU U 4)
def xf_air (Sn Sk T U : St) (nP : Nat) (x v : Int32) : XR := if isRoomS x = 0 then (-1, Sn, Sk, T, rfU U 1) else if 0 ≤ v then (if v ≤ 99 then (airBehindS Sn nP (cl x) (Sn 1 (cl x)) v, Sn, Sk, T, U) else (-6, Sn, Sk, T, rfU U 6)) else (-4, Sn, Sk, T, rfU U 4)
def xf_passes (Sn Sk T U : St) (nP : Nat) (x y : Int32) : XR := if hasPersonS Sn x = 0 then (-1, Sn, Sk, T, rfU U 1) else if hasLockS Sn y = 0 then (-1, Sn, Sk, T, rfU U 1) else if canPassS Sn x y = 0 then (-3, Sn, Sk, T, rfU U 3) else if Sn 12 2 + Sn 5 (cl y) ≤ 999 then (goS nP Sn (cl x) (cl y) 8 (cl x), goS nP Sn (cl x) (cl y), Sk, T, U) else (-6, Sn, Sk, T, rfU U 6)
theorem mins_of {x : Int32} {a b : Int32} {na nb : Nat} (ha : a = nI na) (hb : b = nI nb) (hna : na < 2 ^ 31) (hnb : nb < 2 ^ 31) (h1 : a ≤ x) (h2 : ¬ b < x) : ∃ j, na ≤ j ∧ j ≤ nb ∧ x = nI j := by
  subst ha hb
  have h0 : ¬ x < 0 := fun q => by
    have e0 : (0 : Int32).toInt = 0 := by decide
    rw [Int32.lt_iff_toInt_lt, e0] at q
    rw [Int32.le_iff_toInt_le, nI_toInt hna] at h1
    omega
  obtain ⟨j, hj, rfl⟩ := nI_of h0
  rw [nI_leI hna hj] at h1
  rw [nI_ltI hnb hj] at h2
  exact ⟨j, h1, by omega, rfl⟩
theorem mins_of2 {x : Int32} {a b : Int32} {na nb : Nat} (ha : a = nI na) (hb : b = nI nb) (hna : na < 2 ^ 31) (hnb : nb < 2 ^ 31) (h1 : a ≤ x) (h2 : x ≤ b) : ∃ j, na ≤ j ∧ j ≤ nb ∧ x = nI j := mins_of ha hb hna hnb h1 (Int32.not_lt.mpr h2)
theorem canP_1 {S : St} {x y : Int32} (h : ¬ canPassS S x y = 0) : canPassS S x y = 1 := by
  unfold canPassS at h ⊢
  repeat' split
  all_goals first | rfl | (simp_all; done)
set_option maxHeartbeats 4000000 in
set_option maxRecDepth 20000 in
theorem con_X_refuse (l : Launch) (Z : ZZ) (a : Nat → Nat → Nat) (Sn Sm Sk T L U : St) (x : Int32) (k : Nat) (hk : k < 7) (hx : -x = nI k) (h1 : x < 0) (h2 : -6 ≤ x) : Con l Z yX_refuse cX_refuse 2 (some .int) 0 [.ref (a 0 0), .int x] (wX Z a Sn Sm Sk T L U) (Fn (some (.int x)) (wX Z a Sn Sm Sk T L (rfU U k))) := by
  refine Con.of (by decide) (Nat.le_of_ble_eq_true rfl) (fun X hX hQ => ?_)
  show G X Z (wX Z a Sn Sm Sk T L U) 0 [(0, .ref (a 0 0)), (1, .int x)] []
  refine g_iload_n hX dX_refuse_0 1 rfl ?_
  refine g_if_ge hX 21 dX_refuse_1 (by decide) (fun c_1 => absurd c_1 (Int32.not_le.mpr h1)) (fun c_1 => ?_)
  refine g_iload_n hX dX_refuse_4 1 rfl ?_
  refine g_bipush (v := (-6)) hX dX_refuse_5 (by decide) ?_
  refine g_icmp_lt hX 21 dX_refuse_7 (by decide) (fun c_7 => absurd c_7 (Int32.not_lt.mpr h2)) (fun c_7 => ?_)
  refine g_aload_n hX dX_refuse_10 0 rfl ?_
  refine g_get hX 0 rfl rfl 8 (by decide) uu_X q_139 rfl rfl dX_refuse_11 ?_
  refine g_iload_n hX dX_refuse_14 1 rfl ?_
  refine g_ineg (z := (-x)) hX dX_refuse_15 rfl ?_
  refine g_dup2 hX dX_refuse_16 rfl rfl ?_
  refine g_ald (v := (U 2 k)) hX 2 rfl k (hk) (by decide) (hx) (rfl) dX_refuse_17 ?_
  refine g_iconst (v := 1) hX dX_refuse_18 (by decide) ?_
  refine g_iadd (z := ((U 2 k) + 1)) hX dX_refuse_19 (rfl) ?_
  refine g_ast (ws1 := wX Z a Sn Sm Sk T L (sw U 2 k ((U 2 k) + 1))) hX 2 rfl k (hk) (by decide) (hx) dX_refuse_20 (setX_U_2 Z a Sn Sm Sk T L U k ((U 2 k) + 1)) ?_
  refine g_iload_n hX dX_refuse_21 1 rfl ?_
  exact r_iret hX hQ dX_refuse_22 rfl (⟨rfl, rfl⟩)
set_option maxHeartbeats 4000000 in
set_option maxRecDepth 20000 in
theorem con_X_letter (l : Launch) (Z : ZZ) (a : Nat → Nat → Nat) (Sn Sm Sk T L U : St) (c : Int32) (nT : Nat) (hT : T 1 0 = nI nT) (hT96 : nT ≤ 96) : Con l Z yX_letter cX_letter 2 (some .int) 1 [.ref (a 0 0), .int c] (wX Z a Sn Sm Sk T L U) (XP Z a (xf_letter Sn Sk T U nT c)) := by
  refine Con.of (by decide) (Nat.le_of_ble_eq_true rfl) (fun X hX hQ => ?_)
  show G X Z (wX Z a Sn Sm Sk T L U) 0 [(0, .ref (a 0 0)), (1, .int c)] []
  refine g_iload_n hX dX_letter_0 1 rfl ?_
  refine g_if_ge hX 11 dX_letter_1 (by decide) (fun c_1 => ?_) (fun c_1 => ?_)
  · refine g_iload_n hX dX_letter_11 1 rfl ?_
    refine g_sipush (v := 255) hX dX_letter_12 (by decide) ?_
    refine g_icmp_gt hX 30 dX_letter_15 (by decide) (fun c_15 => ?_) (fun c_15 => ?_)
    · refine g_aload_n hX dX_letter_30 0 rfl ?_
      refine g_bipush (v := (-6)) hX dX_letter_31 (by decide) ?_
      refine g_callV hX (con_X_refuse l Z a Sn Sm Sk T L U (-6) 6 (by decide) (by decide) (by decide) (by decide)) mvX_refuse q_163 rfl (by decide) 0 rfl rfl rfl (Nat.le_of_ble_eq_true rfl) dX_letter_33 [0, 1, 2, 3, 4, 5, 6, 7, 8, 9, 10, 11, 12, 13, 14, 15, 16, 17, 18, 19, 20, 21, 22, 23, 24, 25, 26, 27, 28, 29, 30, 31, 32, 33, 34, 35, 36, 37, 38, 39, 40, 41, 42, 43, 44, 45, 46, 47, 48, 49, 50, 51, 52, 53] rfl (subX_all Z a Sn Sm Sk T L U) (g_fn (ws1 := wX Z a Sn Sm Sk T L (rfU U 6)) (st1 := [.int (-6)]) (putX_all Z a Sn Sm Sk T L U Sn Sm Sk T L (rfU U 6)) rfl ?_)
      exact r_iret hX hQ dX_letter_36 rfl (by rw [show xf_letter Sn Sk T U nT c = ((-6), Sn, Sk, T, rfU U 6) from by simp [xf_letter, c_1, c_15]]; exact ⟨rfl, _, _, rfl⟩)
    · refine g_aload_n hX dX_letter_18 0 rfl ?_
      refine g_get hX 0 rfl rfl 4 (by decide) uu_X q_135 rfl rfl dX_letter_19 ?_
      refine g_get hX 42 rfl rfl 1 (by decide) uu_T q_109 rfl rfl dX_letter_22 ?_
      refine g_top (y := (nI nT)) (hT) ?_
      refine g_bipush (v := 96) hX dX_letter_25 (by decide) ?_
      refine g_icmp_lt hX 37 dX_letter_27 (by decide) (fun c_27 => ?_) (fun c_27 => ?_)
      · have hn96 : nT < 96 := (nI_ltI (a := nT) (b := 96) (by omega) (by omega)).mp c_27
        refine g_aload_n hX dX_letter_37 0 rfl ?_
        refine g_get hX 0 rfl rfl 4 (by decide) uu_X q_135 rfl rfl dX_letter_38 ?_
        refine g_iload_n hX dX_letter_41 1 rfl ?_
        refine g_callV hX (con_T_add l Z (a 4 0) (fun k => a 4 (k + 1)) T c nT hT hn96) mvT_add q_167 rfl (by decide) 42 rfl rfl rfl (Nat.le_of_ble_eq_true rfl) dX_letter_42 [42, 43] rfl (subX_4 Z a Sn Sm Sk T L U) (g_fn (ws1 := wX Z a Sn Sm Sk (addT T nT c) L U) (st1 := []) (putX_4 Z a Sn Sm Sk T L U (addT T nT c)) rfl ?_)
        refine g_aload_n hX dX_letter_45 0 rfl ?_
        refine g_get hX 0 rfl rfl 4 (by decide) uu_X q_135 rfl rfl dX_letter_46 ?_
        refine g_get hX 42 rfl rfl 1 (by decide) uu_T q_109 rfl rfl dX_letter_49 ?_
        refine g_top (y := (nI (nT + 1))) (by simp [addT, sw_eq, upd]) ?_
        exact r_iret hX hQ dX_letter_52 rfl (by rw [show xf_letter Sn Sk T U nT c = ((nI (nT + 1)), Sn, Sk, addT T nT c, U) from by simp [xf_letter, c_1, c_15, c_27]]; exact ⟨rfl, _, _, rfl⟩)
      · refine g_aload_n hX dX_letter_30 0 rfl ?_
        refine g_bipush (v := (-6)) hX dX_letter_31 (by decide) ?_
        refine g_callV hX (con_X_refuse l Z a Sn Sm Sk T L U (-6) 6 (by decide) (by decide) (by decide) (by decide)) mvX_refuse q_163 rfl (by decide) 0 rfl rfl rfl (Nat.le_of_ble_eq_true rfl) dX_letter_33 [0, 1, 2, 3, 4, 5, 6, 7, 8, 9, 10, 11, 12, 13, 14, 15, 16, 17, 18, 19, 20, 21, 22, 23, 24, 25, 26, 27, 28, 29, 30, 31, 32, 33, 34, 35, 36, 37, 38, 39, 40, 41, 42, 43, 44, 45, 46, 47, 48, 49, 50, 51, 52, 53] rfl (subX_all Z a Sn Sm Sk T L U) (g_fn (ws1 := wX Z a Sn Sm Sk T L (rfU U 6)) (st1 := [.int (-6)]) (putX_all Z a Sn Sm Sk T L U Sn Sm Sk T L (rfU U 6)) rfl ?_)
        exact r_iret hX hQ dX_letter_36 rfl (by rw [show xf_letter Sn Sk T U nT c = ((-6), Sn, Sk, T, rfU U 6) from by simp [xf_letter, c_1, c_15, c_27]]; exact ⟨rfl, _, _, rfl⟩)
  · refine g_aload_n hX dX_letter_4 0 rfl ?_
    refine g_bipush (v := (-4)) hX dX_letter_5 (by decide) ?_
    refine g_callV hX (con_X_refuse l Z a Sn Sm Sk T L U (-4) 4 (by decide) (by decide) (by decide) (by decide)) mvX_refuse q_163 rfl (by decide) 0 rfl rfl rfl (Nat.le_of_ble_eq_true rfl) dX_letter_7 [0, 1, 2, 3, 4, 5, 6, 7, 8, 9, 10, 11, 12, 13, 14, 15, 16, 17, 18, 19, 20, 21, 22, 23, 24, 25, 26, 27, 28, 29, 30, 31, 32, 33, 34, 35, 36, 37, 38, 39, 40, 41, 42, 43, 44, 45, 46, 47, 48, 49, 50, 51, 52, 53] rfl (subX_all Z a Sn Sm Sk T L U) (g_fn (ws1 := wX Z a Sn Sm Sk T L (rfU U 4)) (st1 := [.int (-4)]) (putX_all Z a Sn Sm Sk T L U Sn Sm Sk T L (rfU U 4)) rfl ?_)
    exact r_iret hX hQ dX_letter_10 rfl (by rw [show xf_letter Sn Sk T U nT c = ((-4), Sn, Sk, T, rfU U 4) from by simp [xf_letter, c_1]]; exact ⟨rfl, _, _, rfl⟩)
set_option maxHeartbeats 4000000 in
set_option maxRecDepth 20000 in
theorem con_X_room (l : Launch) (Z : ZZ) (a : Nat → Nat → Nat) (Sn Sm Sk T L U : St) (x w : Int32) (nP nL : Nat) (hP : Sn 12 1 = nI nP) (hP5 : nP ≤ 5) (hL : Sn 12 0 = nI nL) (hL7 : nL ≤ 7) : Con l Z yX_room cX_room 3 (some .int) 2 [.ref (a 0 0), .int x, .int w] (wX Z a Sn Sm Sk T L U) (XP Z a (xf_room Sn Sk T U nP x w)) := by
  refine Con.of (by decide) (Nat.le_of_ble_eq_true rfl) (fun X hX hQ => ?_)
  show G X Z (wX Z a Sn Sm Sk T L U) 0 [(0, .ref (a 0 0)), (1, .int x), (2, .int w)] []
  refine g_iload_n hX dX_room_0 1 rfl ?_
  refine g_callS hX (con_X_isRoom l Z x) msX_isRoom q_318 rfl (by decide) rfl (Nat.le_of_ble_eq_true rfl) dX_room_1 [] rfl (rfl) (g_fn (ws1 := wX Z a Sn Sm Sk T L U) (st1 := [.int (isRoomS x)]) (rfl) rfl ?_)
  refine g_if_ne hX 13 dX_room_4 (by decide) (fun c_4 => ?_) (fun c_4 => ?_)
  · obtain ⟨r, hr6, rfl⟩ := isRoom_of c_4
    refine g_iload_n hX dX_room_13 2 rfl ?_
    by_cases c_14_0 : w = 0
    · refine g_tabIn (off := 30) hX 44 dX_room_14 (by rw [c_14_0]; decide) (by rw [c_14_0]; decide) (by rw [c_14_0]; decide) (by decide) ?_
      refine g_aload_n hX dX_room_44 0 rfl ?_
      refine g_get hX 0 rfl rfl 0 (by decide) uu_X q_131 rfl rfl dX_room_45 ?_
      refine g_get hX 3 rfl rfl 0 (by decide) uu_B q_33 rfl rfl dX_room_48 ?_
      refine g_iload_n hX dX_room_51 1 rfl ?_
      refine g_ald (v := (Sn 0 r)) hX 4 rfl r (by omega) (by decide) (rfl) (rfl) dX_room_52 ?_
      exact r_iret hX hQ dX_room_53 rfl (by rw [show xf_room Sn Sk T U nP (nI r) w = ((Sn 0 r), Sn, Sk, T, U) from by simp [xf_room, c_4, c_14_0, nI_clamp (show r < 2 ^ 31 by omega)]]; exact ⟨rfl, _, _, rfl⟩)
    by_cases c_14_1 : w = 1
    · refine g_tabIn (off := 40) hX 54 dX_room_14 (by rw [c_14_1]; decide) (by rw [c_14_1]; decide) (by rw [c_14_1]; decide) (by decide) ?_
      refine g_aload_n hX dX_room_54 0 rfl ?_
      refine g_get hX 0 rfl rfl 0 (by decide) uu_X q_131 rfl rfl dX_room_55 ?_
      refine g_get hX 3 rfl rfl 1 (by decide) uu_B q_35 rfl rfl dX_room_58 ?_
      refine g_iload_n hX dX_room_61 1 rfl ?_
      refine g_ald (v := (Sn 1 r)) hX 5 rfl r (by omega) (by decide) (rfl) (rfl) dX_room_62 ?_
      exact r_iret hX hQ dX_room_63 rfl (by rw [show xf_room Sn Sk T U nP (nI r) w = ((Sn 1 r), Sn, Sk, T, U) from by simp [xf_room, c_4, c_14_0, c_14_1, nI_clamp (show r < 2 ^ 31 by omega)]]; exact ⟨rfl, _, _, rfl⟩)
    by_cases c_14_2 : w = 2
    · refine g_tabIn (off := 50) hX 64 dX_room_14 (by rw [c_14_2]; decide) (by rw [c_14_2]; decide) (by rw [c_14_2]; decide) (by decide) ?_
      refine g_aload_n hX dX_room_64 0 rfl ?_
      refine g_get hX 0 rfl rfl 0 (by decide) uu_X q_131 rfl rfl dX_room_65 ?_
      refine g_iload_n hX dX_room_68 1 rfl ?_
      refine g_callV hX (con_B_peopleAt l Z (a 1 0) (fun k => a 1 (k + 1)) Sn (nI r) nP hP hP5) mvB_peopleAt q_319 rfl (by decide) 3 rfl rfl rfl (Nat.le_of_ble_eq_true rfl) dX_room_69 [3, 4, 5, 6, 7, 8, 9, 10, 11, 12, 13, 14, 15] rfl (subX_1 Z a Sn Sm Sk T L U) (g_fn (ws1 := wX Z a Sn Sm Sk T L U) (st1 := [.int (cnt (Sn 8) (nI r) nP)]) (putX_1 Z a Sn Sm Sk T L U Sn) rfl ?_)
      exact r_iret hX hQ dX_room_72 rfl (by rw [show xf_room Sn Sk T U nP (nI r) w = ((cnt (Sn 8) (nI r) nP), Sn, Sk, T, U) from by simp [xf_room, c_4, c_14_0, c_14_1, c_14_2, nI_clamp (show r < 2 ^ 31 by omega)]]; exact ⟨rfl, _, _, rfl⟩)
    by_cases c_14_3 : w = 3
    · refine g_tabIn (off := 59) hX 73 dX_room_14 (by rw [c_14_3]; decide) (by rw [c_14_3]; decide) (by rw [c_14_3]; decide) (by decide) ?_
      refine g_aload_n hX dX_room_73 0 rfl ?_
      refine g_get hX 0 rfl rfl 0 (by decide) uu_X q_131 rfl rfl dX_room_74 ?_
      refine g_iload_n hX dX_room_77 1 rfl ?_
      refine g_callV hX (con_B_breathIn l Z (a 1 0) (fun k => a 1 (k + 1)) Sn (nI r) nP hP hP5) mvB_breathIn q_323 rfl (by decide) 3 rfl rfl rfl (Nat.le_of_ble_eq_true rfl) dX_room_78 [3, 4, 5, 6, 7, 8, 9, 10, 11, 12, 13, 14, 15] rfl (subX_1 Z a Sn Sm Sk T L U) (g_fn (ws1 := wX Z a Sn Sm Sk T L U) (st1 := [.int (breathInS Sn nP (nI r))]) (putX_1 Z a Sn Sm Sk T L U Sn) rfl ?_)
      exact r_iret hX hQ dX_room_81 rfl (by rw [show xf_room Sn Sk T U nP (nI r) w = ((breathInS Sn nP (nI r)), Sn, Sk, T, U) from by simp [xf_room, c_4, c_14_0, c_14_1, c_14_2, c_14_3, nI_clamp (show r < 2 ^ 31 by omega)]]; exact ⟨rfl, _, _, rfl⟩)
    refine g_tabOut hX 82 dX_room_14 (by have := ne_toInt c_14_0 (z := 0) (by decide); have := ne_toInt c_14_1 (z := 1) (by decide); have := ne_toInt c_14_2 (z := 2) (by decide); have := ne_toInt c_14_3 (z := 3) (by decide); omega) (by decide) ?_
    refine g_aload_n hX dX_room_82 0 rfl ?_
    refine g_bipush (v := (-2)) hX dX_room_83 (by decide) ?_
    refine g_callV hX (con_X_refuse l Z a Sn Sm Sk T L U (-2) 2 (by decide) (by decide) (by decide) (by decide)) mvX_refuse q_163 rfl (by decide) 0 rfl rfl rfl (Nat.le_of_ble_eq_true rfl) dX_room_85 [0, 1, 2, 3, 4, 5, 6, 7, 8, 9, 10, 11, 12, 13, 14, 15, 16, 17, 18, 19, 20, 21, 22, 23, 24, 25, 26, 27, 28, 29, 30, 31, 32, 33, 34, 35, 36, 37, 38, 39, 40, 41, 42, 43, 44, 45, 46, 47, 48, 49, 50, 51, 52, 53] rfl (subX_all Z a Sn Sm Sk T L U) (g_fn (ws1 := wX Z a Sn Sm Sk T L (rfU U 2)) (st1 := [.int (-2)]) (putX_all Z a Sn Sm Sk T L U Sn Sm Sk T L (rfU U 2)) rfl ?_)
    exact r_iret hX hQ dX_room_88 rfl (by rw [show xf_room Sn Sk T U nP (nI r) w = ((-2), Sn, Sk, T, rfU U 2) from by simp [xf_room, c_4, c_14_0, c_14_1, c_14_2, c_14_3, nI_clamp (show r < 2 ^ 31 by omega)]]; exact ⟨rfl, _, _, rfl⟩)
  · refine g_aload_n hX dX_room_7 0 rfl ?_
    refine g_iconst (v := (-1)) hX dX_room_8 (by decide) ?_
    refine g_callV hX (con_X_refuse l Z a Sn Sm Sk T L U (-1) 1 (by decide) (by decide) (by decide) (by decide)) mvX_refuse q_163 rfl (by decide) 0 rfl rfl rfl (Nat.le_of_ble_eq_true rfl) dX_room_9 [0, 1, 2, 3, 4, 5, 6, 7, 8, 9, 10, 11, 12, 13, 14, 15, 16, 17, 18, 19, 20, 21, 22, 23, 24, 25, 26, 27, 28, 29, 30, 31, 32, 33, 34, 35, 36, 37, 38, 39, 40, 41, 42, 43, 44, 45, 46, 47, 48, 49, 50, 51, 52, 53] rfl (subX_all Z a Sn Sm Sk T L U) (g_fn (ws1 := wX Z a Sn Sm Sk T L (rfU U 1)) (st1 := [.int (-1)]) (putX_all Z a Sn Sm Sk T L U Sn Sm Sk T L (rfU U 1)) rfl ?_)
    exact r_iret hX hQ dX_room_12 rfl (by rw [show xf_room Sn Sk T U nP x w = ((-1), Sn, Sk, T, rfU U 1) from by simp [xf_room, c_4]]; exact ⟨rfl, _, _, rfl⟩)
set_option maxHeartbeats 4000000 in
set_option maxRecDepth 20000 in
theorem con_B_breathOf (l : Launch) (Z : ZZ) (h : Nat) (q : Nat → Nat) (S : St) (x : Int32) (nP : Nat) (hP : S 12 1 = nI nP) (hP5 : nP ≤ 5) : Con l Z yB_breathOf cB_breathOf 2 (some .int) 2 [.ref h, .int x] (wB Z h q S) (Fn (some (.int (breathOfS S nP x))) (wB Z h q S)) := by
  refine Con.of (by decide) (Nat.le_of_ble_eq_true rfl) (fun X hX hQ => ?_)
  show G X Z (wB Z h q S) 0 [(0, .ref h), (1, .int x)] []
  refine g_aload_n hX dB_breathOf_0 0 rfl ?_
  refine g_iload_n hX dB_breathOf_1 1 rfl ?_
  refine g_callV hX (con_B_hasPerson l Z h q S x) mvB_hasPerson q_351 rfl (by decide) 0 rfl rfl rfl (Nat.le_of_ble_eq_true rfl) dB_breathOf_2 [0, 1, 2, 3, 4, 5, 6, 7, 8, 9, 10, 11, 12] rfl (subB_all Z h q S) (g_fn (ws1 := wB Z h q S) (st1 := [.int (hasPersonS S x)]) (putB_all Z h q S S) rfl ?_)
  refine g_if_eq hX 20 dB_breathOf_5 (by decide) (fun c_5 => ?_) (fun c_5 => ?_)
  · refine g_iconst (v := 0) hX dB_breathOf_20 (by decide) ?_
    exact r_iret hX hQ dB_breathOf_21 rfl (⟨by simp [breathOfS, c_5], rfl⟩)
  · obtain ⟨p, hp6, rfl⟩ := hasP_of hP hP5 c_5
    refine g_aload_n hX dB_breathOf_8 0 rfl ?_
    refine g_get hX 0 rfl rfl 9 (by decide) uu_B q_54 rfl rfl dB_breathOf_9 ?_
    refine g_iload_n hX dB_breathOf_12 1 rfl ?_
    refine g_ald (v := (S 8 p)) hX 9 rfl p (by omega) (by decide) (rfl) (rfl) dB_breathOf_13 ?_
    refine g_callN hX (con_X_isRoom l Z (S 8 p)) msX_isRoom (fun U H hE => hE.1.2.1) rfl (by decide) rfl (Nat.le_of_ble_eq_true rfl) dB_breathOf_14 [] rfl (rfl) (g_fn (ws1 := wB Z h q S) (st1 := [.int (isRoomS (S 8 p))]) (rfl) rfl ?_)
    refine g_if_ne hX 22 dB_breathOf_17 (by decide) (fun c_17 => ?_) (fun c_17 => ?_)
    · refine g_aload_n hX dB_breathOf_22 0 rfl ?_
      refine g_get hX 0 rfl rfl 8 (by decide) uu_B q_52 rfl rfl dB_breathOf_23 ?_
      refine g_iload_n hX dB_breathOf_26 1 rfl ?_
      refine g_ald (v := (S 7 p)) hX 8 rfl p (by omega) (by decide) (rfl) (rfl) dB_breathOf_27 ?_
      refine g_aload_n hX dB_breathOf_28 0 rfl ?_
      refine g_aload_n hX dB_breathOf_29 0 rfl ?_
      refine g_get hX 0 rfl rfl 9 (by decide) uu_B q_54 rfl rfl dB_breathOf_30 ?_
      refine g_iload_n hX dB_breathOf_33 1 rfl ?_
      refine g_ald (v := (S 8 p)) hX 9 rfl p (by omega) (by decide) (rfl) (rfl) dB_breathOf_34 ?_
      refine g_callV hX (con_B_peopleAt l Z h q S (S 8 p) nP hP hP5) mvB_peopleAt q_327 rfl (by decide) 0 rfl rfl rfl (Nat.le_of_ble_eq_true rfl) dB_breathOf_35 [0, 1, 2, 3, 4, 5, 6, 7, 8, 9, 10, 11, 12] rfl (subB_all Z h q S) (g_fn (ws1 := wB Z h q S) (st1 := [.int (cnt (S 8) (S 8 p) nP), .int (S 7 p)]) (putB_all Z h q S S) rfl ?_)
      refine g_iconst (v := 1) hX dB_breathOf_38 (by decide) ?_
      have hJ_47 : G X Z (wB Z h q S) 47 [(0, .ref h), (1, .int (nI p))] [.int (al (cnt (S 8) (S 8 p) nP)), .int (S 7 p)] := by
        refine g_callN hX (con_X_breathOfKind l Z (S 7 p) (al (cnt (S 8) (S 8 p) nP))) msX_breathOfKind (fun U H hE => hE.1.2.2.2.1) rfl (by decide) rfl (Nat.le_of_ble_eq_true rfl) dB_breathOf_47 [] rfl (rfl) (g_fn (ws1 := wB Z h q S) (st1 := [.int (bk (S 7 p) (al (cnt (S 8) (S 8 p) nP)))]) (rfl) rfl ?_)
        exact r_iret hX hQ dB_breathOf_50 rfl (⟨by simp [breathOfS, c_5, c_17, nI_clamp (show p < 2 ^ 31 by omega)], rfl⟩)
      refine g_icmp_ne hX 46 dB_breathOf_39 (by decide) (fun c_39 => ?_) (fun c_39 => ?_)
      · refine g_iconst (v := 0) hX dB_breathOf_46 (by decide) ?_
        refine g_top (y := (al (cnt (S 8) (S 8 p) nP))) (by simp [al, c_5, c_17, c_39]) ?_
        exact hJ_47
      · refine g_iconst (v := 1) hX dB_breathOf_42 (by decide) ?_
        refine g_goto hX 47 dB_breathOf_43 (by decide) ?_
        refine g_top (y := (al (cnt (S 8) (S 8 p) nP))) (by simp [al, c_5, c_17, c_39]) ?_
        exact hJ_47
    · refine g_iconst (v := 0) hX dB_breathOf_20 (by decide) ?_
      exact r_iret hX hQ dB_breathOf_21 rfl (⟨by simp [breathOfS, c_5, c_17, nI_clamp (show p < 2 ^ 31 by omega)], rfl⟩)
set_option maxHeartbeats 4000000 in
set_option maxRecDepth 20000 in
theorem con_X_lock (l : Launch) (Z : ZZ) (a : Nat → Nat → Nat) (Sn Sm Sk T L U : St) (x w : Int32) (nP nL : Nat) (hP : Sn 12 1 = nI nP) (hP5 : nP ≤ 5) (hL : Sn 12 0 = nI nL) (hL7 : nL ≤ 7) : Con l Z yX_lock cX_lock 3 (some .int) 1 [.ref (a 0 0), .int x, .int w] (wX Z a Sn Sm Sk T L U) (XP Z a (xf_lock Sn Sk T U x w)) := by
  refine Con.of (by decide) (Nat.le_of_ble_eq_true rfl) (fun X hX hQ => ?_)
  show G X Z (wX Z a Sn Sm Sk T L U) 0 [(0, .ref (a 0 0)), (1, .int x), (2, .int w)] []
  refine g_aload_n hX dX_lock_0 0 rfl ?_
  refine g_get hX 0 rfl rfl 0 (by decide) uu_X q_131 rfl rfl dX_lock_1 ?_
  refine g_iload_n hX dX_lock_4 1 rfl ?_
  refine g_callV hX (con_B_hasLock l Z (a 1 0) (fun k => a 1 (k + 1)) Sn x) mvB_hasLock q_335 rfl (by decide) 3 rfl rfl rfl (Nat.le_of_ble_eq_true rfl) dX_lock_5 [3, 4, 5, 6, 7, 8, 9, 10, 11, 12, 13, 14, 15] rfl (subX_1 Z a Sn Sm Sk T L U) (g_fn (ws1 := wX Z a Sn Sm Sk T L U) (st1 := [.int (hasLockS Sn x)]) (putX_1 Z a Sn Sm Sk T L U Sn) rfl ?_)
  refine g_if_ne hX 17 dX_lock_8 (by decide) (fun c_8 => ?_) (fun c_8 => ?_)
  · obtain ⟨g1, hg16, rfl⟩ := hasL_of hL hL7 c_8
    refine g_iload_n hX dX_lock_17 2 rfl ?_
    by_cases c_18_0 : w = 0
    · refine g_tabIn (off := 34) hX 52 dX_lock_18 (by rw [c_18_0]; decide) (by rw [c_18_0]; decide) (by rw [c_18_0]; decide) (by decide) ?_
      refine g_aload_n hX dX_lock_52 0 rfl ?_
      refine g_get hX 0 rfl rfl 0 (by decide) uu_X q_131 rfl rfl dX_lock_53 ?_
      refine g_get hX 3 rfl rfl 2 (by decide) uu_B q_38 rfl rfl dX_lock_56 ?_
      refine g_iload_n hX dX_lock_59 1 rfl ?_
      refine g_ald (v := (Sn 2 g1)) hX 6 rfl g1 (by omega) (by decide) (rfl) (rfl) dX_lock_60 ?_
      exact r_iret hX hQ dX_lock_61 rfl (by rw [show xf_lock Sn Sk T U (nI g1) w = ((Sn 2 g1), Sn, Sk, T, U) from by simp [xf_lock, c_8, c_18_0, nI_clamp (show g1 < 2 ^ 31 by omega)]]; exact ⟨rfl, _, _, rfl⟩)
    by_cases c_18_1 : w = 1
    · refine g_tabIn (off := 44) hX 62 dX_lock_18 (by rw [c_18_1]; decide) (by rw [c_18_1]; decide) (by rw [c_18_1]; decide) (by decide) ?_
      refine g_aload_n hX dX_lock_62 0 rfl ?_
      refine g_get hX 0 rfl rfl 0 (by decide) uu_X q_131 rfl rfl dX_lock_63 ?_
      refine g_get hX 3 rfl rfl 3 (by decide) uu_B q_41 rfl rfl dX_lock_66 ?_
      refine g_iload_n hX dX_lock_69 1 rfl ?_
      refine g_ald (v := (Sn 3 g1)) hX 7 rfl g1 (by omega) (by decide) (rfl) (rfl) dX_lock_70 ?_
      exact r_iret hX hQ dX_lock_71 rfl (by rw [show xf_lock Sn Sk T U (nI g1) w = ((Sn 3 g1), Sn, Sk, T, U) from by simp [xf_lock, c_8, c_18_0, c_18_1, nI_clamp (show g1 < 2 ^ 31 by omega)]]; exact ⟨rfl, _, _, rfl⟩)
    by_cases c_18_2 : w = 2
    · refine g_tabIn (off := 54) hX 72 dX_lock_18 (by rw [c_18_2]; decide) (by rw [c_18_2]; decide) (by rw [c_18_2]; decide) (by decide) ?_
      refine g_aload_n hX dX_lock_72 0 rfl ?_
      refine g_get hX 0 rfl rfl 0 (by decide) uu_X q_131 rfl rfl dX_lock_73 ?_
      refine g_get hX 3 rfl rfl 4 (by decide) uu_B q_43 rfl rfl dX_lock_76 ?_
      refine g_iload_n hX dX_lock_79 1 rfl ?_
      refine g_ald (v := (Sn 4 g1)) hX 8 rfl g1 (by omega) (by decide) (rfl) (rfl) dX_lock_80 ?_
      exact r_iret hX hQ dX_lock_81 rfl (by rw [show xf_lock Sn Sk T U (nI g1) w = ((Sn 4 g1), Sn, Sk, T, U) from by simp [xf_lock, c_8, c_18_0, c_18_1, c_18_2, nI_clamp (show g1 < 2 ^ 31 by omega)]]; exact ⟨rfl, _, _, rfl⟩)
    by_cases c_18_3 : w = 3
    · refine g_tabIn (off := 64) hX 82 dX_lock_18 (by rw [c_18_3]; decide) (by rw [c_18_3]; decide) (by rw [c_18_3]; decide) (by decide) ?_
      refine g_aload_n hX dX_lock_82 0 rfl ?_
      refine g_get hX 0 rfl rfl 0 (by decide) uu_X q_131 rfl rfl dX_lock_83 ?_
      refine g_get hX 3 rfl rfl 5 (by decide) uu_B q_46 rfl rfl dX_lock_86 ?_
      refine g_iload_n hX dX_lock_89 1 rfl ?_
      refine g_ald (v := (Sn 5 g1)) hX 9 rfl g1 (by omega) (by decide) (rfl) (rfl) dX_lock_90 ?_
      exact r_iret hX hQ dX_lock_91 rfl (by rw [show xf_lock Sn Sk T U (nI g1) w = ((Sn 5 g1), Sn, Sk, T, U) from by simp [xf_lock, c_8, c_18_0, c_18_1, c_18_2, c_18_3, nI_clamp (show g1 < 2 ^ 31 by omega)]]; exact ⟨rfl, _, _, rfl⟩)
    by_cases c_18_4 : w = 4
    · refine g_tabIn (off := 74) hX 92 dX_lock_18 (by rw [c_18_4]; decide) (by rw [c_18_4]; decide) (by rw [c_18_4]; decide) (by decide) ?_
      refine g_aload_n hX dX_lock_92 0 rfl ?_
      refine g_get hX 0 rfl rfl 0 (by decide) uu_X q_131 rfl rfl dX_lock_93 ?_
      refine g_get hX 3 rfl rfl 6 (by decide) uu_B q_48 rfl rfl dX_lock_96 ?_
      refine g_iload_n hX dX_lock_99 1 rfl ?_
      refine g_ald (v := (Sn 6 g1)) hX 10 rfl g1 (by omega) (by decide) (rfl) (rfl) dX_lock_100 ?_
      exact r_iret hX hQ dX_lock_101 rfl (by rw [show xf_lock Sn Sk T U (nI g1) w = ((Sn 6 g1), Sn, Sk, T, U) from by simp [xf_lock, c_8, c_18_0, c_18_1, c_18_2, c_18_3, c_18_4, nI_clamp (show g1 < 2 ^ 31 by omega)]]; exact ⟨rfl, _, _, rfl⟩)
    refine g_tabOut hX 102 dX_lock_18 (by have := ne_toInt c_18_0 (z := 0) (by decide); have := ne_toInt c_18_1 (z := 1) (by decide); have := ne_toInt c_18_2 (z := 2) (by decide); have := ne_toInt c_18_3 (z := 3) (by decide); have := ne_toInt c_18_4 (z := 4) (by decide); omega) (by decide) ?_
    refine g_aload_n hX dX_lock_102 0 rfl ?_
    refine g_bipush (v := (-2)) hX dX_lock_103 (by decide) ?_
    refine g_callV hX (con_X_refuse l Z a Sn Sm Sk T L U (-2) 2 (by decide) (by decide) (by decide) (by decide)) mvX_refuse q_163 rfl (by decide) 0 rfl rfl rfl (Nat.le_of_ble_eq_true rfl) dX_lock_105 [0, 1, 2, 3, 4, 5, 6, 7, 8, 9, 10, 11, 12, 13, 14, 15, 16, 17, 18, 19, 20, 21, 22, 23, 24, 25, 26, 27, 28, 29, 30, 31, 32, 33, 34, 35, 36, 37, 38, 39, 40, 41, 42, 43, 44, 45, 46, 47, 48, 49, 50, 51, 52, 53] rfl (subX_all Z a Sn Sm Sk T L U) (g_fn (ws1 := wX Z a Sn Sm Sk T L (rfU U 2)) (st1 := [.int (-2)]) (putX_all Z a Sn Sm Sk T L U Sn Sm Sk T L (rfU U 2)) rfl ?_)
    exact r_iret hX hQ dX_lock_108 rfl (by rw [show xf_lock Sn Sk T U (nI g1) w = ((-2), Sn, Sk, T, rfU U 2) from by simp [xf_lock, c_8, c_18_0, c_18_1, c_18_2, c_18_3, c_18_4, nI_clamp (show g1 < 2 ^ 31 by omega)]]; exact ⟨rfl, _, _, rfl⟩)
  · refine g_aload_n hX dX_lock_11 0 rfl ?_
    refine g_iconst (v := (-1)) hX dX_lock_12 (by decide) ?_
    refine g_callV hX (con_X_refuse l Z a Sn Sm Sk T L U (-1) 1 (by decide) (by decide) (by decide) (by decide)) mvX_refuse q_163 rfl (by decide) 0 rfl rfl rfl (Nat.le_of_ble_eq_true rfl) dX_lock_13 [0, 1, 2, 3, 4, 5, 6, 7, 8, 9, 10, 11, 12, 13, 14, 15, 16, 17, 18, 19, 20, 21, 22, 23, 24, 25, 26, 27, 28, 29, 30, 31, 32, 33, 34, 35, 36, 37, 38, 39, 40, 41, 42, 43, 44, 45, 46, 47, 48, 49, 50, 51, 52, 53] rfl (subX_all Z a Sn Sm Sk T L U) (g_fn (ws1 := wX Z a Sn Sm Sk T L (rfU U 1)) (st1 := [.int (-1)]) (putX_all Z a Sn Sm Sk T L U Sn Sm Sk T L (rfU U 1)) rfl ?_)
    exact r_iret hX hQ dX_lock_16 rfl (by rw [show xf_lock Sn Sk T U x w = ((-1), Sn, Sk, T, rfU U 1) from by simp [xf_lock, c_8]]; exact ⟨rfl, _, _, rfl⟩)
set_option maxHeartbeats 4000000 in
set_option maxRecDepth 20000 in
theorem con_X_person (l : Launch) (Z : ZZ) (a : Nat → Nat → Nat) (Sn Sm Sk T L U : St) (x w : Int32) (nP nL : Nat) (hP : Sn 12 1 = nI nP) (hP5 : nP ≤ 5) (hL : Sn 12 0 = nI nL) (hL7 : nL ≤ 7) : Con l Z yX_person cX_person 3 (some .int) 3 [.ref (a 0 0), .int x, .int w] (wX Z a Sn Sm Sk T L U) (XP Z a (xf_person Sn Sk T U nP x w)) := by
  refine Con.of (by decide) (Nat.le_of_ble_eq_true rfl) (fun X hX hQ => ?_)
  show G X Z (wX Z a Sn Sm Sk T L U) 0 [(0, .ref (a 0 0)), (1, .int x), (2, .int w)] []
  refine g_aload_n hX dX_person_0 0 rfl ?_
  refine g_get hX 0 rfl rfl 0 (by decide) uu_X q_131 rfl rfl dX_person_1 ?_
  refine g_iload_n hX dX_person_4 1 rfl ?_
  refine g_callV hX (con_B_hasPerson l Z (a 1 0) (fun k => a 1 (k + 1)) Sn x) mvB_hasPerson q_343 rfl (by decide) 3 rfl rfl rfl (Nat.le_of_ble_eq_true rfl) dX_person_5 [3, 4, 5, 6, 7, 8, 9, 10, 11, 12, 13, 14, 15] rfl (subX_1 Z a Sn Sm Sk T L U) (g_fn (ws1 := wX Z a Sn Sm Sk T L U) (st1 := [.int (hasPersonS Sn x)]) (putX_1 Z a Sn Sm Sk T L U Sn) rfl ?_)
  refine g_if_ne hX 17 dX_person_8 (by decide) (fun c_8 => ?_) (fun c_8 => ?_)
  · obtain ⟨p, hp6, rfl⟩ := hasP_of hP hP5 c_8
    refine g_iload_n hX dX_person_17 2 rfl ?_
    by_cases c_18_0 : w = 0
    · refine g_tabIn (off := 34) hX 52 dX_person_18 (by rw [c_18_0]; decide) (by rw [c_18_0]; decide) (by rw [c_18_0]; decide) (by decide) ?_
      refine g_aload_n hX dX_person_52 0 rfl ?_
      refine g_get hX 0 rfl rfl 0 (by decide) uu_X q_131 rfl rfl dX_person_53 ?_
      refine g_get hX 3 rfl rfl 8 (by decide) uu_B q_53 rfl rfl dX_person_56 ?_
      refine g_iload_n hX dX_person_59 1 rfl ?_
      refine g_ald (v := (Sn 7 p)) hX 11 rfl p (by omega) (by decide) (rfl) (rfl) dX_person_60 ?_
      exact r_iret hX hQ dX_person_61 rfl (by rw [show xf_person Sn Sk T U nP (nI p) w = ((Sn 7 p), Sn, Sk, T, U) from by simp [xf_person, c_8, c_18_0, nI_clamp (show p < 2 ^ 31 by omega)]]; exact ⟨rfl, _, _, rfl⟩)
    by_cases c_18_1 : w = 1
    · refine g_tabIn (off := 44) hX 62 dX_person_18 (by rw [c_18_1]; decide) (by rw [c_18_1]; decide) (by rw [c_18_1]; decide) (by decide) ?_
      refine g_aload_n hX dX_person_62 0 rfl ?_
      refine g_get hX 0 rfl rfl 0 (by decide) uu_X q_131 rfl rfl dX_person_63 ?_
      refine g_get hX 3 rfl rfl 9 (by decide) uu_B q_55 rfl rfl dX_person_66 ?_
      refine g_iload_n hX dX_person_69 1 rfl ?_
      refine g_ald (v := (Sn 8 p)) hX 12 rfl p (by omega) (by decide) (rfl) (rfl) dX_person_70 ?_
      exact r_iret hX hQ dX_person_71 rfl (by rw [show xf_person Sn Sk T U nP (nI p) w = ((Sn 8 p), Sn, Sk, T, U) from by simp [xf_person, c_8, c_18_0, c_18_1, nI_clamp (show p < 2 ^ 31 by omega)]]; exact ⟨rfl, _, _, rfl⟩)
    by_cases c_18_2 : w = 2
    · refine g_tabIn (off := 54) hX 72 dX_person_18 (by rw [c_18_2]; decide) (by rw [c_18_2]; decide) (by rw [c_18_2]; decide) (by decide) ?_
      refine g_aload_n hX dX_person_72 0 rfl ?_
      refine g_get hX 0 rfl rfl 0 (by decide) uu_X q_131 rfl rfl dX_person_73 ?_
      refine g_get hX 3 rfl rfl 10 (by decide) uu_B q_57 rfl rfl dX_person_76 ?_
      refine g_iload_n hX dX_person_79 1 rfl ?_
      refine g_ald (v := (Sn 9 p)) hX 13 rfl p (by omega) (by decide) (rfl) (rfl) dX_person_80 ?_
      exact r_iret hX hQ dX_person_81 rfl (by rw [show xf_person Sn Sk T U nP (nI p) w = ((Sn 9 p), Sn, Sk, T, U) from by simp [xf_person, c_8, c_18_0, c_18_1, c_18_2, nI_clamp (show p < 2 ^ 31 by omega)]]; exact ⟨rfl, _, _, rfl⟩)
    by_cases c_18_3 : w = 3
    · refine g_tabIn (off := 64) hX 82 dX_person_18 (by rw [c_18_3]; decide) (by rw [c_18_3]; decide) (by rw [c_18_3]; decide) (by decide) ?_
      refine g_aload_n hX dX_person_82 0 rfl ?_
      refine g_get hX 0 rfl rfl 0 (by decide) uu_X q_131 rfl rfl dX_person_83 ?_
      refine g_get hX 3 rfl rfl 11 (by decide) uu_B q_59 rfl rfl dX_person_86 ?_
      refine g_iload_n hX dX_person_89 1 rfl ?_
      refine g_ald (v := (Sn 10 p)) hX 14 rfl p (by omega) (by decide) (rfl) (rfl) dX_person_90 ?_
      exact r_iret hX hQ dX_person_91 rfl (by rw [show xf_person Sn Sk T U nP (nI p) w = ((Sn 10 p), Sn, Sk, T, U) from by simp [xf_person, c_8, c_18_0, c_18_1, c_18_2, c_18_3, nI_clamp (show p < 2 ^ 31 by omega)]]; exact ⟨rfl, _, _, rfl⟩)
    by_cases c_18_4 : w = 4
    · refine g_tabIn (off := 74) hX 92 dX_person_18 (by rw [c_18_4]; decide) (by rw [c_18_4]; decide) (by rw [c_18_4]; decide) (by decide) ?_
      refine g_aload_n hX dX_person_92 0 rfl ?_
      refine g_get hX 0 rfl rfl 0 (by decide) uu_X q_131 rfl rfl dX_person_93 ?_
      refine g_iload_n hX dX_person_96 1 rfl ?_
      refine g_callV hX (con_B_breathOf l Z (a 1 0) (fun k => a 1 (k + 1)) Sn (nI p) nP hP hP5) mvB_breathOf q_347 rfl (by decide) 3 rfl rfl rfl (Nat.le_of_ble_eq_true rfl) dX_person_97 [3, 4, 5, 6, 7, 8, 9, 10, 11, 12, 13, 14, 15] rfl (subX_1 Z a Sn Sm Sk T L U) (g_fn (ws1 := wX Z a Sn Sm Sk T L U) (st1 := [.int (breathOfS Sn nP (nI p))]) (putX_1 Z a Sn Sm Sk T L U Sn) rfl ?_)
      exact r_iret hX hQ dX_person_100 rfl (by rw [show xf_person Sn Sk T U nP (nI p) w = ((breathOfS Sn nP (nI p)), Sn, Sk, T, U) from by simp [xf_person, c_8, c_18_0, c_18_1, c_18_2, c_18_3, c_18_4, nI_clamp (show p < 2 ^ 31 by omega)]]; exact ⟨rfl, _, _, rfl⟩)
    refine g_tabOut hX 101 dX_person_18 (by have := ne_toInt c_18_0 (z := 0) (by decide); have := ne_toInt c_18_1 (z := 1) (by decide); have := ne_toInt c_18_2 (z := 2) (by decide); have := ne_toInt c_18_3 (z := 3) (by decide); have := ne_toInt c_18_4 (z := 4) (by decide); omega) (by decide) ?_
    refine g_aload_n hX dX_person_101 0 rfl ?_
    refine g_bipush (v := (-2)) hX dX_person_102 (by decide) ?_
    refine g_callV hX (con_X_refuse l Z a Sn Sm Sk T L U (-2) 2 (by decide) (by decide) (by decide) (by decide)) mvX_refuse q_163 rfl (by decide) 0 rfl rfl rfl (Nat.le_of_ble_eq_true rfl) dX_person_104 [0, 1, 2, 3, 4, 5, 6, 7, 8, 9, 10, 11, 12, 13, 14, 15, 16, 17, 18, 19, 20, 21, 22, 23, 24, 25, 26, 27, 28, 29, 30, 31, 32, 33, 34, 35, 36, 37, 38, 39, 40, 41, 42, 43, 44, 45, 46, 47, 48, 49, 50, 51, 52, 53] rfl (subX_all Z a Sn Sm Sk T L U) (g_fn (ws1 := wX Z a Sn Sm Sk T L (rfU U 2)) (st1 := [.int (-2)]) (putX_all Z a Sn Sm Sk T L U Sn Sm Sk T L (rfU U 2)) rfl ?_)
    exact r_iret hX hQ dX_person_107 rfl (by rw [show xf_person Sn Sk T U nP (nI p) w = ((-2), Sn, Sk, T, rfU U 2) from by simp [xf_person, c_8, c_18_0, c_18_1, c_18_2, c_18_3, c_18_4, nI_clamp (show p < 2 ^ 31 by omega)]]; exact ⟨rfl, _, _, rfl⟩)
  · refine g_aload_n hX dX_person_11 0 rfl ?_
    refine g_iconst (v := (-1)) hX dX_person_12 (by decide) ?_
    refine g_callV hX (con_X_refuse l Z a Sn Sm Sk T L U (-1) 1 (by decide) (by decide) (by decide) (by decide)) mvX_refuse q_163 rfl (by decide) 0 rfl rfl rfl (Nat.le_of_ble_eq_true rfl) dX_person_13 [0, 1, 2, 3, 4, 5, 6, 7, 8, 9, 10, 11, 12, 13, 14, 15, 16, 17, 18, 19, 20, 21, 22, 23, 24, 25, 26, 27, 28, 29, 30, 31, 32, 33, 34, 35, 36, 37, 38, 39, 40, 41, 42, 43, 44, 45, 46, 47, 48, 49, 50, 51, 52, 53] rfl (subX_all Z a Sn Sm Sk T L U) (g_fn (ws1 := wX Z a Sn Sm Sk T L (rfU U 1)) (st1 := [.int (-1)]) (putX_all Z a Sn Sm Sk T L U Sn Sm Sk T L (rfU U 1)) rfl ?_)
    exact r_iret hX hQ dX_person_16 rfl (by rw [show xf_person Sn Sk T U nP x w = ((-1), Sn, Sk, T, rfU U 1) from by simp [xf_person, c_8]]; exact ⟨rfl, _, _, rfl⟩)
set_option maxHeartbeats 4000000 in
set_option maxRecDepth 20000 in
theorem con_X_open (l : Launch) (Z : ZZ) (a : Nat → Nat → Nat) (Sn Sm Sk T L U : St) (x w : Int32) (nP nL : Nat) (hP : Sn 12 1 = nI nP) (hP5 : nP ≤ 5) (hL : Sn 12 0 = nI nL) (hL7 : nL ≤ 7) : Con l Z yX_open cX_open 4 (some .int) 1 [.ref (a 0 0), .int x, .int w] (wX Z a Sn Sm Sk T L U) (XP Z a (xf_open Sn Sk T U x w)) := by
  refine Con.of (by decide) (Nat.le_of_ble_eq_true rfl) (fun X hX hQ => ?_)
  show G X Z (wX Z a Sn Sm Sk T L U) 0 [(0, .ref (a 0 0)), (1, .int x), (2, .int w)] []
  refine g_aload_n hX dX_open_0 0 rfl ?_
  refine g_get hX 0 rfl rfl 0 (by decide) uu_X q_131 rfl rfl dX_open_1 ?_
  refine g_iload_n hX dX_open_4 1 rfl ?_
  refine g_callV hX (con_B_hasLock l Z (a 1 0) (fun k => a 1 (k + 1)) Sn x) mvB_hasLock q_335 rfl (by decide) 3 rfl rfl rfl (Nat.le_of_ble_eq_true rfl) dX_open_5 [3, 4, 5, 6, 7, 8, 9, 10, 11, 12, 13, 14, 15] rfl (subX_1 Z a Sn Sm Sk T L U) (g_fn (ws1 := wX Z a Sn Sm Sk T L U) (st1 := [.int (hasLockS Sn x)]) (putX_1 Z a Sn Sm Sk T L U Sn) rfl ?_)
  refine g_if_ne hX 17 dX_open_8 (by decide) (fun c_8 => ?_) (fun c_8 => ?_)
  · obtain ⟨g1, hg16, rfl⟩ := hasL_of hL hL7 c_8
    refine g_iload_n hX dX_open_17 2 rfl ?_
    refine g_if_lt hX 26 dX_open_18 (by decide) (fun c_18 => ?_) (fun c_18 => ?_)
    · refine g_aload_n hX dX_open_26 0 rfl ?_
      refine g_bipush (v := (-2)) hX dX_open_27 (by decide) ?_
      refine g_callV hX (con_X_refuse l Z a Sn Sm Sk T L U (-2) 2 (by decide) (by decide) (by decide) (by decide)) mvX_refuse q_163 rfl (by decide) 0 rfl rfl rfl (Nat.le_of_ble_eq_true rfl) dX_open_29 [0, 1, 2, 3, 4, 5, 6, 7, 8, 9, 10, 11, 12, 13, 14, 15, 16, 17, 18, 19, 20, 21, 22, 23, 24, 25, 26, 27, 28, 29, 30, 31, 32, 33, 34, 35, 36, 37, 38, 39, 40, 41, 42, 43, 44, 45, 46, 47, 48, 49, 50, 51, 52, 53] rfl (subX_all Z a Sn Sm Sk T L U) (g_fn (ws1 := wX Z a Sn Sm Sk T L (rfU U 2)) (st1 := [.int (-2)]) (putX_all Z a Sn Sm Sk T L U Sn Sm Sk T L (rfU U 2)) rfl ?_)
      exact r_iret hX hQ dX_open_32 rfl (by rw [show xf_open Sn Sk T U (nI g1) w = ((-2), Sn, Sk, T, rfU U 2) from by simp [xf_open, c_8, c_18, nI_clamp (show g1 < 2 ^ 31 by omega)]]; exact ⟨rfl, _, _, rfl⟩)
    · refine g_iload_n hX dX_open_21 2 rfl ?_
      refine g_iconst (v := 2) hX dX_open_22 (by decide) ?_
      refine g_icmp_le hX 33 dX_open_23 (by decide) (fun c_23 => ?_) (fun c_23 => ?_)
      · refine g_aload_n hX dX_open_33 0 rfl ?_
        refine g_get hX 0 rfl rfl 0 (by decide) uu_X q_131 rfl rfl dX_open_34 ?_
        refine g_get hX 3 rfl rfl 6 (by decide) uu_B q_48 rfl rfl dX_open_37 ?_
        refine g_iload_n hX dX_open_40 1 rfl ?_
        refine g_ald (v := (Sn 6 g1)) hX 10 rfl g1 (by omega) (by decide) (rfl) (rfl) dX_open_41 ?_
        refine g_istore_n (lv1 := [(0, .ref (a 0 0)), (1, .int (nI g1)), (2, .int w), (3, .int (Sn 6 g1))]) hX dX_open_42 (by decide) [1, 2, 3, 0] rfl ?_
        refine g_iload_n hX dX_open_43 2 rfl ?_
        refine g_if_eq hX 63 dX_open_44 (by decide) (fun c_44 => ?_) (fun c_44 => ?_)
        · refine g_aload_n hX dX_open_63 0 rfl ?_
          refine g_get hX 0 rfl rfl 0 (by decide) uu_X q_131 rfl rfl dX_open_64 ?_
          refine g_get hX 3 rfl rfl 6 (by decide) uu_B q_48 rfl rfl dX_open_67 ?_
          refine g_iload_n hX dX_open_70 1 rfl ?_
          refine g_iload_n hX dX_open_71 2 rfl ?_
          refine g_ast (ws1 := wX Z a (sw Sn 6 g1 w) Sm Sk T L U) hX 10 rfl g1 (by omega) (by decide) (rfl) dX_open_72 (setX_Sn_6 Z a Sn Sm Sk T L U g1 w) ?_
          refine g_iload_n hX dX_open_73 3 rfl ?_
          exact r_iret hX hQ dX_open_74 rfl (by rw [show xf_open Sn Sk T U (nI g1) w = ((Sn 6 g1), sw Sn 6 g1 w, Sk, T, U) from by simp [xf_open, c_8, c_18, c_23, c_44, nI_clamp (show g1 < 2 ^ 31 by omega)]]; exact ⟨rfl, _, _, rfl⟩)
        · refine g_iload_n hX dX_open_47 3 rfl ?_
          refine g_if_eq hX 63 dX_open_48 (by decide) (fun c_48 => ?_) (fun c_48 => ?_)
          · refine g_aload_n hX dX_open_63 0 rfl ?_
            refine g_get hX 0 rfl rfl 0 (by decide) uu_X q_131 rfl rfl dX_open_64 ?_
            refine g_get hX 3 rfl rfl 6 (by decide) uu_B q_48 rfl rfl dX_open_67 ?_
            refine g_iload_n hX dX_open_70 1 rfl ?_
            refine g_iload_n hX dX_open_71 2 rfl ?_
            refine g_ast (ws1 := wX Z a (sw Sn 6 g1 w) Sm Sk T L U) hX 10 rfl g1 (by omega) (by decide) (rfl) dX_open_72 (setX_Sn_6 Z a Sn Sm Sk T L U g1 w) ?_
            refine g_iload_n hX dX_open_73 3 rfl ?_
            exact r_iret hX hQ dX_open_74 rfl (by rw [show xf_open Sn Sk T U (nI g1) w = ((Sn 6 g1), sw Sn 6 g1 w, Sk, T, U) from by simp [xf_open, c_8, c_18, c_23, c_44, c_48, nI_clamp (show g1 < 2 ^ 31 by omega)]]; exact ⟨rfl, _, _, rfl⟩)
          · refine g_iload_n hX dX_open_51 3 rfl ?_
            refine g_iload_n hX dX_open_52 2 rfl ?_
            refine g_icmp_eq hX 63 dX_open_53 (by decide) (fun c_53 => ?_) (fun c_53 => ?_)
            · refine g_aload_n hX dX_open_63 0 rfl ?_
              refine g_get hX 0 rfl rfl 0 (by decide) uu_X q_131 rfl rfl dX_open_64 ?_
              refine g_get hX 3 rfl rfl 6 (by decide) uu_B q_48 rfl rfl dX_open_67 ?_
              refine g_iload_n hX dX_open_70 1 rfl ?_
              refine g_iload_n hX dX_open_71 2 rfl ?_
              refine g_ast (ws1 := wX Z a (sw Sn 6 g1 w) Sm Sk T L U) hX 10 rfl g1 (by omega) (by decide) (rfl) dX_open_72 (setX_Sn_6 Z a Sn Sm Sk T L U g1 w) ?_
              refine g_iload_n hX dX_open_73 3 rfl ?_
              exact r_iret hX hQ dX_open_74 rfl (by rw [show xf_open Sn Sk T U (nI g1) w = ((Sn 6 g1), sw Sn 6 g1 w, Sk, T, U) from by simp [xf_open, c_8, c_18, c_23, c_44, c_48, c_53, nI_clamp (show g1 < 2 ^ 31 by omega)]]; exact ⟨rfl, _, _, rfl⟩)
            · refine g_aload_n hX dX_open_56 0 rfl ?_
              refine g_bipush (v := (-3)) hX dX_open_57 (by decide) ?_
              refine g_callV hX (con_X_refuse l Z a Sn Sm Sk T L U (-3) 3 (by decide) (by decide) (by decide) (by decide)) mvX_refuse q_163 rfl (by decide) 0 rfl rfl rfl (Nat.le_of_ble_eq_true rfl) dX_open_59 [0, 1, 2, 3, 4, 5, 6, 7, 8, 9, 10, 11, 12, 13, 14, 15, 16, 17, 18, 19, 20, 21, 22, 23, 24, 25, 26, 27, 28, 29, 30, 31, 32, 33, 34, 35, 36, 37, 38, 39, 40, 41, 42, 43, 44, 45, 46, 47, 48, 49, 50, 51, 52, 53] rfl (subX_all Z a Sn Sm Sk T L U) (g_fn (ws1 := wX Z a Sn Sm Sk T L (rfU U 3)) (st1 := [.int (-3)]) (putX_all Z a Sn Sm Sk T L U Sn Sm Sk T L (rfU U 3)) rfl ?_)
              exact r_iret hX hQ dX_open_62 rfl (by rw [show xf_open Sn Sk T U (nI g1) w = ((-3), Sn, Sk, T, rfU U 3) from by simp [xf_open, c_8, c_18, c_23, c_44, c_48, c_53, nI_clamp (show g1 < 2 ^ 31 by omega)]]; exact ⟨rfl, _, _, rfl⟩)
      · refine g_aload_n hX dX_open_26 0 rfl ?_
        refine g_bipush (v := (-2)) hX dX_open_27 (by decide) ?_
        refine g_callV hX (con_X_refuse l Z a Sn Sm Sk T L U (-2) 2 (by decide) (by decide) (by decide) (by decide)) mvX_refuse q_163 rfl (by decide) 0 rfl rfl rfl (Nat.le_of_ble_eq_true rfl) dX_open_29 [0, 1, 2, 3, 4, 5, 6, 7, 8, 9, 10, 11, 12, 13, 14, 15, 16, 17, 18, 19, 20, 21, 22, 23, 24, 25, 26, 27, 28, 29, 30, 31, 32, 33, 34, 35, 36, 37, 38, 39, 40, 41, 42, 43, 44, 45, 46, 47, 48, 49, 50, 51, 52, 53] rfl (subX_all Z a Sn Sm Sk T L U) (g_fn (ws1 := wX Z a Sn Sm Sk T L (rfU U 2)) (st1 := [.int (-2)]) (putX_all Z a Sn Sm Sk T L U Sn Sm Sk T L (rfU U 2)) rfl ?_)
        exact r_iret hX hQ dX_open_32 rfl (by rw [show xf_open Sn Sk T U (nI g1) w = ((-2), Sn, Sk, T, rfU U 2) from by simp [xf_open, c_8, c_18, c_23, nI_clamp (show g1 < 2 ^ 31 by omega)]]; exact ⟨rfl, _, _, rfl⟩)
  · refine g_aload_n hX dX_open_11 0 rfl ?_
    refine g_iconst (v := (-1)) hX dX_open_12 (by decide) ?_
    refine g_callV hX (con_X_refuse l Z a Sn Sm Sk T L U (-1) 1 (by decide) (by decide) (by decide) (by decide)) mvX_refuse q_163 rfl (by decide) 0 rfl rfl rfl (Nat.le_of_ble_eq_true rfl) dX_open_13 [0, 1, 2, 3, 4, 5, 6, 7, 8, 9, 10, 11, 12, 13, 14, 15, 16, 17, 18, 19, 20, 21, 22, 23, 24, 25, 26, 27, 28, 29, 30, 31, 32, 33, 34, 35, 36, 37, 38, 39, 40, 41, 42, 43, 44, 45, 46, 47, 48, 49, 50, 51, 52, 53] rfl (subX_all Z a Sn Sm Sk T L U) (g_fn (ws1 := wX Z a Sn Sm Sk T L (rfU U 1)) (st1 := [.int (-1)]) (putX_all Z a Sn Sm Sk T L U Sn Sm Sk T L (rfU U 1)) rfl ?_)
    exact r_iret hX hQ dX_open_16 rfl (by rw [show xf_open Sn Sk T U x w = ((-1), Sn, Sk, T, rfU U 1) from by simp [xf_open, c_8]]; exact ⟨rfl, _, _, rfl⟩)
set_option maxHeartbeats 4000000 in
set_option maxRecDepth 20000 in
theorem con_X_leak (l : Launch) (Z : ZZ) (a : Nat → Nat → Nat) (Sn Sm Sk T L U : St) (x v : Int32) (nP nL : Nat) (hP : Sn 12 1 = nI nP) (hP5 : nP ≤ 5) (hL : Sn 12 0 = nI nL) (hL7 : nL ≤ 7) : Con l Z yX_leak cX_leak 4 (some .int) 1 [.ref (a 0 0), .int x, .int v] (wX Z a Sn Sm Sk T L U) (XP Z a (xf_leak Sn Sk T U x v)) := by
  refine Con.of (by decide) (Nat.le_of_ble_eq_true rfl) (fun X hX hQ => ?_)
  show G X Z (wX Z a Sn Sm Sk T L U) 0 [(0, .ref (a 0 0)), (1, .int x), (2, .int v)] []
  refine g_iload_n hX dX_leak_0 1 rfl ?_
  refine g_callS hX (con_X_isRoom l Z x) msX_isRoom q_318 rfl (by decide) rfl (Nat.le_of_ble_eq_true rfl) dX_leak_1 [] rfl (rfl) (g_fn (ws1 := wX Z a Sn Sm Sk T L U) (st1 := [.int (isRoomS x)]) (rfl) rfl ?_)
  refine g_if_ne hX 13 dX_leak_4 (by decide) (fun c_4 => ?_) (fun c_4 => ?_)
  · obtain ⟨r, hr6, rfl⟩ := isRoom_of c_4
    refine g_iload_n hX dX_leak_13 2 rfl ?_
    refine g_if_ge hX 24 dX_leak_14 (by decide) (fun c_14 => ?_) (fun c_14 => ?_)
    · refine g_iload_n hX dX_leak_24 2 rfl ?_
      refine g_bipush (v := 9) hX dX_leak_25 (by decide) ?_
      refine g_icmp_le hX 37 dX_leak_27 (by decide) (fun c_27 => ?_) (fun c_27 => ?_)
      · refine g_aload_n hX dX_leak_37 0 rfl ?_
        refine g_get hX 0 rfl rfl 0 (by decide) uu_X q_131 rfl rfl dX_leak_38 ?_
        refine g_get hX 3 rfl rfl 1 (by decide) uu_B q_35 rfl rfl dX_leak_41 ?_
        refine g_iload_n hX dX_leak_44 1 rfl ?_
        refine g_ald (v := (Sn 1 r)) hX 5 rfl r (by omega) (by decide) (rfl) (rfl) dX_leak_45 ?_
        refine g_istore_n (lv1 := [(0, .ref (a 0 0)), (1, .int (nI r)), (2, .int v), (3, .int (Sn 1 r))]) hX dX_leak_46 (by decide) [1, 2, 3, 0] rfl ?_
        refine g_aload_n hX dX_leak_47 0 rfl ?_
        refine g_get hX 0 rfl rfl 0 (by decide) uu_X q_131 rfl rfl dX_leak_48 ?_
        refine g_get hX 3 rfl rfl 1 (by decide) uu_B q_35 rfl rfl dX_leak_51 ?_
        refine g_iload_n hX dX_leak_54 1 rfl ?_
        refine g_iload_n hX dX_leak_55 2 rfl ?_
        refine g_ast (ws1 := wX Z a (sw Sn 1 r v) Sm Sk T L U) hX 5 rfl r (by omega) (by decide) (rfl) dX_leak_56 (setX_Sn_1 Z a Sn Sm Sk T L U r v) ?_
        refine g_iload_n hX dX_leak_57 3 rfl ?_
        exact r_iret hX hQ dX_leak_58 rfl (by rw [show xf_leak Sn Sk T U (nI r) v = ((Sn 1 r), sw Sn 1 r v, Sk, T, U) from by simp [xf_leak, c_4, c_14, c_27, nI_clamp (show r < 2 ^ 31 by omega)]]; exact ⟨rfl, _, _, rfl⟩)
      · refine g_aload_n hX dX_leak_30 0 rfl ?_
        refine g_bipush (v := (-6)) hX dX_leak_31 (by decide) ?_
        refine g_callV hX (con_X_refuse l Z a Sn Sm Sk T L U (-6) 6 (by decide) (by decide) (by decide) (by decide)) mvX_refuse q_163 rfl (by decide) 0 rfl rfl rfl (Nat.le_of_ble_eq_true rfl) dX_leak_33 [0, 1, 2, 3, 4, 5, 6, 7, 8, 9, 10, 11, 12, 13, 14, 15, 16, 17, 18, 19, 20, 21, 22, 23, 24, 25, 26, 27, 28, 29, 30, 31, 32, 33, 34, 35, 36, 37, 38, 39, 40, 41, 42, 43, 44, 45, 46, 47, 48, 49, 50, 51, 52, 53] rfl (subX_all Z a Sn Sm Sk T L U) (g_fn (ws1 := wX Z a Sn Sm Sk T L (rfU U 6)) (st1 := [.int (-6)]) (putX_all Z a Sn Sm Sk T L U Sn Sm Sk T L (rfU U 6)) rfl ?_)
        exact r_iret hX hQ dX_leak_36 rfl (by rw [show xf_leak Sn Sk T U (nI r) v = ((-6), Sn, Sk, T, rfU U 6) from by simp [xf_leak, c_4, c_14, c_27, nI_clamp (show r < 2 ^ 31 by omega)]]; exact ⟨rfl, _, _, rfl⟩)
    · refine g_aload_n hX dX_leak_17 0 rfl ?_
      refine g_bipush (v := (-4)) hX dX_leak_18 (by decide) ?_
      refine g_callV hX (con_X_refuse l Z a Sn Sm Sk T L U (-4) 4 (by decide) (by decide) (by decide) (by decide)) mvX_refuse q_163 rfl (by decide) 0 rfl rfl rfl (Nat.le_of_ble_eq_true rfl) dX_leak_20 [0, 1, 2, 3, 4, 5, 6, 7, 8, 9, 10, 11, 12, 13, 14, 15, 16, 17, 18, 19, 20, 21, 22, 23, 24, 25, 26, 27, 28, 29, 30, 31, 32, 33, 34, 35, 36, 37, 38, 39, 40, 41, 42, 43, 44, 45, 46, 47, 48, 49, 50, 51, 52, 53] rfl (subX_all Z a Sn Sm Sk T L U) (g_fn (ws1 := wX Z a Sn Sm Sk T L (rfU U 4)) (st1 := [.int (-4)]) (putX_all Z a Sn Sm Sk T L U Sn Sm Sk T L (rfU U 4)) rfl ?_)
      exact r_iret hX hQ dX_leak_23 rfl (by rw [show xf_leak Sn Sk T U (nI r) v = ((-4), Sn, Sk, T, rfU U 4) from by simp [xf_leak, c_4, c_14, nI_clamp (show r < 2 ^ 31 by omega)]]; exact ⟨rfl, _, _, rfl⟩)
  · refine g_aload_n hX dX_leak_7 0 rfl ?_
    refine g_iconst (v := (-1)) hX dX_leak_8 (by decide) ?_
    refine g_callV hX (con_X_refuse l Z a Sn Sm Sk T L U (-1) 1 (by decide) (by decide) (by decide) (by decide)) mvX_refuse q_163 rfl (by decide) 0 rfl rfl rfl (Nat.le_of_ble_eq_true rfl) dX_leak_9 [0, 1, 2, 3, 4, 5, 6, 7, 8, 9, 10, 11, 12, 13, 14, 15, 16, 17, 18, 19, 20, 21, 22, 23, 24, 25, 26, 27, 28, 29, 30, 31, 32, 33, 34, 35, 36, 37, 38, 39, 40, 41, 42, 43, 44, 45, 46, 47, 48, 49, 50, 51, 52, 53] rfl (subX_all Z a Sn Sm Sk T L U) (g_fn (ws1 := wX Z a Sn Sm Sk T L (rfU U 1)) (st1 := [.int (-1)]) (putX_all Z a Sn Sm Sk T L U Sn Sm Sk T L (rfU U 1)) rfl ?_)
    exact r_iret hX hQ dX_leak_12 rfl (by rw [show xf_leak Sn Sk T U x v = ((-1), Sn, Sk, T, rfU U 1) from by simp [xf_leak, c_4]]; exact ⟨rfl, _, _, rfl⟩)
set_option maxHeartbeats 4000000 in
set_option maxRecDepth 20000 in
theorem con_X_air (l : Launch) (Z : ZZ) (a : Nat → Nat → Nat) (Sn Sm Sk T L U : St) (x v : Int32) (nP nL : Nat) (hP : Sn 12 1 = nI nP) (hP5 : nP ≤ 5) (hL : Sn 12 0 = nI nL) (hL7 : nL ≤ 7) : Con l Z yX_air cX_air 3 (some .int) 3 [.ref (a 0 0), .int x, .int v] (wX Z a Sn Sm Sk T L U) (XP Z a (xf_air Sn Sk T U nP x v)) := by
  refine Con.of (by decide) (Nat.le_of_ble_eq_true rfl) (fun X hX hQ => ?_)
  show G X Z (wX Z a Sn Sm Sk T L U) 0 [(0, .ref (a 0 0)), (1, .int x), (2, .int v)] []
  refine g_iload_n hX dX_air_0 1 rfl ?_
  refine g_callS hX (con_X_isRoom l Z x) msX_isRoom q_318 rfl (by decide) rfl (Nat.le_of_ble_eq_true rfl) dX_air_1 [] rfl (rfl) (g_fn (ws1 := wX Z a Sn Sm Sk T L U) (st1 := [.int (isRoomS x)]) (rfl) rfl ?_)
  refine g_if_ne hX 13 dX_air_4 (by decide) (fun c_4 => ?_) (fun c_4 => ?_)
  · obtain ⟨r, hr6, rfl⟩ := isRoom_of c_4
    refine g_iload_n hX dX_air_13 2 rfl ?_
    refine g_if_ge hX 24 dX_air_14 (by decide) (fun c_14 => ?_) (fun c_14 => ?_)
    · refine g_iload_n hX dX_air_24 2 rfl ?_
      refine g_bipush (v := 99) hX dX_air_25 (by decide) ?_
      refine g_icmp_le hX 37 dX_air_27 (by decide) (fun c_27 => ?_) (fun c_27 => ?_)
      · refine g_aload_n hX dX_air_37 0 rfl ?_
        refine g_get hX 0 rfl rfl 0 (by decide) uu_X q_131 rfl rfl dX_air_38 ?_
        refine g_iload_n hX dX_air_41 1 rfl ?_
        refine g_aload_n hX dX_air_42 0 rfl ?_
        refine g_get hX 0 rfl rfl 0 (by decide) uu_X q_131 rfl rfl dX_air_43 ?_
        refine g_get hX 3 rfl rfl 1 (by decide) uu_B q_35 rfl rfl dX_air_46 ?_
        refine g_iload_n hX dX_air_49 1 rfl ?_
        refine g_ald (v := (Sn 1 r)) hX 5 rfl r (by omega) (by decide) (rfl) (rfl) dX_air_50 ?_
        refine g_iload_n hX dX_air_51 2 rfl ?_
        refine g_callV hX (con_B_airBehind l Z (a 1 0) (fun k => a 1 (k + 1)) Sn (Sn 1 r) v r hr6 nP hP hP5) mvB_airBehind q_392 rfl (by decide) 3 rfl rfl rfl (Nat.le_of_ble_eq_true rfl) dX_air_52 [3, 4, 5, 6, 7, 8, 9, 10, 11, 12, 13, 14, 15] rfl (subX_1 Z a Sn Sm Sk T L U) (g_fn (ws1 := wX Z a Sn Sm Sk T L U) (st1 := [.int (airBehindS Sn nP r (Sn 1 r) v)]) (putX_1 Z a Sn Sm Sk T L U Sn) rfl ?_)
        exact r_iret hX hQ dX_air_55 rfl (by rw [show xf_air Sn Sk T U nP (nI r) v = ((airBehindS Sn nP r (Sn 1 r) v), Sn, Sk, T, U) from by simp [xf_air, c_4, c_14, c_27, nI_clamp (show r < 2 ^ 31 by omega)]]; exact ⟨rfl, _, _, rfl⟩)
      · refine g_aload_n hX dX_air_30 0 rfl ?_
        refine g_bipush (v := (-6)) hX dX_air_31 (by decide) ?_
        refine g_callV hX (con_X_refuse l Z a Sn Sm Sk T L U (-6) 6 (by decide) (by decide) (by decide) (by decide)) mvX_refuse q_163 rfl (by decide) 0 rfl rfl rfl (Nat.le_of_ble_eq_true rfl) dX_air_33 [0, 1, 2, 3, 4, 5, 6, 7, 8, 9, 10, 11, 12, 13, 14, 15, 16, 17, 18, 19, 20, 21, 22, 23, 24, 25, 26, 27, 28, 29, 30, 31, 32, 33, 34, 35, 36, 37, 38, 39, 40, 41, 42, 43, 44, 45, 46, 47, 48, 49, 50, 51, 52, 53] rfl (subX_all Z a Sn Sm Sk T L U) (g_fn (ws1 := wX Z a Sn Sm Sk T L (rfU U 6)) (st1 := [.int (-6)]) (putX_all Z a Sn Sm Sk T L U Sn Sm Sk T L (rfU U 6)) rfl ?_)
        exact r_iret hX hQ dX_air_36 rfl (by rw [show xf_air Sn Sk T U nP (nI r) v = ((-6), Sn, Sk, T, rfU U 6) from by simp [xf_air, c_4, c_14, c_27, nI_clamp (show r < 2 ^ 31 by omega)]]; exact ⟨rfl, _, _, rfl⟩)
    · refine g_aload_n hX dX_air_17 0 rfl ?_
      refine g_bipush (v := (-4)) hX dX_air_18 (by decide) ?_
      refine g_callV hX (con_X_refuse l Z a Sn Sm Sk T L U (-4) 4 (by decide) (by decide) (by decide) (by decide)) mvX_refuse q_163 rfl (by decide) 0 rfl rfl rfl (Nat.le_of_ble_eq_true rfl) dX_air_20 [0, 1, 2, 3, 4, 5, 6, 7, 8, 9, 10, 11, 12, 13, 14, 15, 16, 17, 18, 19, 20, 21, 22, 23, 24, 25, 26, 27, 28, 29, 30, 31, 32, 33, 34, 35, 36, 37, 38, 39, 40, 41, 42, 43, 44, 45, 46, 47, 48, 49, 50, 51, 52, 53] rfl (subX_all Z a Sn Sm Sk T L U) (g_fn (ws1 := wX Z a Sn Sm Sk T L (rfU U 4)) (st1 := [.int (-4)]) (putX_all Z a Sn Sm Sk T L U Sn Sm Sk T L (rfU U 4)) rfl ?_)
      exact r_iret hX hQ dX_air_23 rfl (by rw [show xf_air Sn Sk T U nP (nI r) v = ((-4), Sn, Sk, T, rfU U 4) from by simp [xf_air, c_4, c_14, nI_clamp (show r < 2 ^ 31 by omega)]]; exact ⟨rfl, _, _, rfl⟩)
  · refine g_aload_n hX dX_air_7 0 rfl ?_
    refine g_iconst (v := (-1)) hX dX_air_8 (by decide) ?_
    refine g_callV hX (con_X_refuse l Z a Sn Sm Sk T L U (-1) 1 (by decide) (by decide) (by decide) (by decide)) mvX_refuse q_163 rfl (by decide) 0 rfl rfl rfl (Nat.le_of_ble_eq_true rfl) dX_air_9 [0, 1, 2, 3, 4, 5, 6, 7, 8, 9, 10, 11, 12, 13, 14, 15, 16, 17, 18, 19, 20, 21, 22, 23, 24, 25, 26, 27, 28, 29, 30, 31, 32, 33, 34, 35, 36, 37, 38, 39, 40, 41, 42, 43, 44, 45, 46, 47, 48, 49, 50, 51, 52, 53] rfl (subX_all Z a Sn Sm Sk T L U) (g_fn (ws1 := wX Z a Sn Sm Sk T L (rfU U 1)) (st1 := [.int (-1)]) (putX_all Z a Sn Sm Sk T L U Sn Sm Sk T L (rfU U 1)) rfl ?_)
    exact r_iret hX hQ dX_air_12 rfl (by rw [show xf_air Sn Sk T U nP x v = ((-1), Sn, Sk, T, rfU U 1) from by simp [xf_air, c_4]]; exact ⟨rfl, _, _, rfl⟩)
set_option maxHeartbeats 4000000 in
set_option maxRecDepth 20000 in
theorem con_X_minutes (l : Launch) (Z : ZZ) (a : Nat → Nat → Nat) (Sn Sm Sk T L U : St) (x : Int32) (nP nL : Nat) (hP : Sn 12 1 = nI nP) (hP5 : nP ≤ 5) (hL : Sn 12 0 = nI nL) (hL7 : nL ≤ 7) : Con l Z yX_minutes cX_minutes 2 (some .int) 4 [.ref (a 0 0), .int x] (wX Z a Sn Sm Sk T L U) (XP Z a (xf_minutes Sn Sk T U nP x)) := by
  refine Con.of (by decide) (Nat.le_of_ble_eq_true rfl) (fun X hX hQ => ?_)
  show G X Z (wX Z a Sn Sm Sk T L U) 0 [(0, .ref (a 0 0)), (1, .int x)] []
  refine g_iload_n hX dX_minutes_0 1 rfl ?_
  refine g_iconst (v := 1) hX dX_minutes_1 (by decide) ?_
  refine g_icmp_ge hX 12 dX_minutes_2 (by decide) (fun c_2 => ?_) (fun c_2 => ?_)
  · refine g_iload_n hX dX_minutes_12 1 rfl ?_
    refine g_bipush (v := 99) hX dX_minutes_13 (by decide) ?_
    refine g_icmp_gt hX 33 dX_minutes_15 (by decide) (fun c_15 => ?_) (fun c_15 => ?_)
    · refine g_aload_n hX dX_minutes_33 0 rfl ?_
      refine g_bipush (v := (-6)) hX dX_minutes_34 (by decide) ?_
      refine g_callV hX (con_X_refuse l Z a Sn Sm Sk T L U (-6) 6 (by decide) (by decide) (by decide) (by decide)) mvX_refuse q_163 rfl (by decide) 0 rfl rfl rfl (Nat.le_of_ble_eq_true rfl) dX_minutes_36 [0, 1, 2, 3, 4, 5, 6, 7, 8, 9, 10, 11, 12, 13, 14, 15, 16, 17, 18, 19, 20, 21, 22, 23, 24, 25, 26, 27, 28, 29, 30, 31, 32, 33, 34, 35, 36, 37, 38, 39, 40, 41, 42, 43, 44, 45, 46, 47, 48, 49, 50, 51, 52, 53] rfl (subX_all Z a Sn Sm Sk T L U) (g_fn (ws1 := wX Z a Sn Sm Sk T L (rfU U 6)) (st1 := [.int (-6)]) (putX_all Z a Sn Sm Sk T L U Sn Sm Sk T L (rfU U 6)) rfl ?_)
      exact r_iret hX hQ dX_minutes_39 rfl (by rw [show xf_minutes Sn Sk T U nP x = ((-6), Sn, Sk, T, rfU U 6) from by simp [xf_minutes, c_2, c_15]]; exact ⟨rfl, _, _, rfl⟩)
    · obtain ⟨n1, hn10, hn19, rfl⟩ := mins_of (a := 1) (b := 99) (na := 1) (nb := 99) rfl rfl (by decide) (by decide) c_2 c_15
      refine g_aload_n hX dX_minutes_18 0 rfl ?_
      refine g_get hX 0 rfl rfl 0 (by decide) uu_X q_131 rfl rfl dX_minutes_19 ?_
      refine g_get hX 3 rfl rfl 14 (by decide) uu_B q_64 rfl rfl dX_minutes_22 ?_
      refine g_iload_n hX dX_minutes_25 1 rfl ?_
      refine g_iadd (z := ((Sn 12 2) + (nI n1))) hX dX_minutes_26 (rfl) ?_
      refine g_sipush (v := 999) hX dX_minutes_27 (by decide) ?_
      refine g_icmp_le hX 40 dX_minutes_30 (by decide) (fun c_30 => ?_) (fun c_30 => ?_)
      · refine g_aload_n hX dX_minutes_40 0 rfl ?_
        refine g_get hX 0 rfl rfl 0 (by decide) uu_X q_131 rfl rfl dX_minutes_41 ?_
        refine g_iload_n hX dX_minutes_44 1 rfl ?_
        refine g_callV hX (con_B_liveMinutes l Z (a 1 0) (fun k => a 1 (k + 1)) Sn n1 (by omega) nP hP hP5) mvB_liveMinutes q_383 rfl (by decide) 3 rfl rfl rfl (Nat.le_of_ble_eq_true rfl) dX_minutes_45 [3, 4, 5, 6, 7, 8, 9, 10, 11, 12, 13, 14, 15] rfl (subX_1 Z a Sn Sm Sk T L U) (g_fn (ws1 := wX Z a (liveN nP Sn n1) Sm Sk T L U) (st1 := [.int (liveN nP Sn n1 12 3 - Sn 12 3)]) (putX_1 Z a Sn Sm Sk T L U (liveN nP Sn n1)) rfl ?_)
        exact r_iret hX hQ dX_minutes_48 rfl (by rw [show xf_minutes Sn Sk T U nP (nI n1) = ((liveN nP Sn n1 12 3 - Sn 12 3), liveN nP Sn n1, Sk, T, U) from by simp [xf_minutes, c_2, c_15, c_30, nI_clamp (show n1 < 2 ^ 31 by omega)]]; exact ⟨rfl, _, _, rfl⟩)
      · refine g_aload_n hX dX_minutes_33 0 rfl ?_
        refine g_bipush (v := (-6)) hX dX_minutes_34 (by decide) ?_
        refine g_callV hX (con_X_refuse l Z a Sn Sm Sk T L U (-6) 6 (by decide) (by decide) (by decide) (by decide)) mvX_refuse q_163 rfl (by decide) 0 rfl rfl rfl (Nat.le_of_ble_eq_true rfl) dX_minutes_36 [0, 1, 2, 3, 4, 5, 6, 7, 8, 9, 10, 11, 12, 13, 14, 15, 16, 17, 18, 19, 20, 21, 22, 23, 24, 25, 26, 27, 28, 29, 30, 31, 32, 33, 34, 35, 36, 37, 38, 39, 40, 41, 42, 43, 44, 45, 46, 47, 48, 49, 50, 51, 52, 53] rfl (subX_all Z a Sn Sm Sk T L U) (g_fn (ws1 := wX Z a Sn Sm Sk T L (rfU U 6)) (st1 := [.int (-6)]) (putX_all Z a Sn Sm Sk T L U Sn Sm Sk T L (rfU U 6)) rfl ?_)
        exact r_iret hX hQ dX_minutes_39 rfl (by rw [show xf_minutes Sn Sk T U nP (nI n1) = ((-6), Sn, Sk, T, rfU U 6) from by simp [xf_minutes, c_2, c_15, c_30, nI_clamp (show n1 < 2 ^ 31 by omega)]]; exact ⟨rfl, _, _, rfl⟩)
  · refine g_aload_n hX dX_minutes_5 0 rfl ?_
    refine g_bipush (v := (-4)) hX dX_minutes_6 (by decide) ?_
    refine g_callV hX (con_X_refuse l Z a Sn Sm Sk T L U (-4) 4 (by decide) (by decide) (by decide) (by decide)) mvX_refuse q_163 rfl (by decide) 0 rfl rfl rfl (Nat.le_of_ble_eq_true rfl) dX_minutes_8 [0, 1, 2, 3, 4, 5, 6, 7, 8, 9, 10, 11, 12, 13, 14, 15, 16, 17, 18, 19, 20, 21, 22, 23, 24, 25, 26, 27, 28, 29, 30, 31, 32, 33, 34, 35, 36, 37, 38, 39, 40, 41, 42, 43, 44, 45, 46, 47, 48, 49, 50, 51, 52, 53] rfl (subX_all Z a Sn Sm Sk T L U) (g_fn (ws1 := wX Z a Sn Sm Sk T L (rfU U 4)) (st1 := [.int (-4)]) (putX_all Z a Sn Sm Sk T L U Sn Sm Sk T L (rfU U 4)) rfl ?_)
    exact r_iret hX hQ dX_minutes_11 rfl (by rw [show xf_minutes Sn Sk T U nP x = ((-4), Sn, Sk, T, rfU U 4) from by simp [xf_minutes, c_2]]; exact ⟨rfl, _, _, rfl⟩)
set_option maxHeartbeats 4000000 in
set_option maxRecDepth 20000 in
theorem con_X_passes (l : Launch) (Z : ZZ) (a : Nat → Nat → Nat) (Sn Sm Sk T L U : St) (x y : Int32) (nP nL : Nat) (hP : Sn 12 1 = nI nP) (hP5 : nP ≤ 5) (hL : Sn 12 0 = nI nL) (hL7 : nL ≤ 7) (hcy : ∀ g, g < nL → ∃ c, c ≤ 9 ∧ Sn 5 g = nI c) : Con l Z yX_passes cX_passes 3 (some .int) 5 [.ref (a 0 0), .int x, .int y] (wX Z a Sn Sm Sk T L U) (XP Z a (xf_passes Sn Sk T U nP x y)) := by
  refine Con.of (by decide) (Nat.le_of_ble_eq_true rfl) (fun X hX hQ => ?_)
  show G X Z (wX Z a Sn Sm Sk T L U) 0 [(0, .ref (a 0 0)), (1, .int x), (2, .int y)] []
  refine g_aload_n hX dX_passes_0 0 rfl ?_
  refine g_get hX 0 rfl rfl 0 (by decide) uu_X q_131 rfl rfl dX_passes_1 ?_
  refine g_iload_n hX dX_passes_4 1 rfl ?_
  refine g_callV hX (con_B_hasPerson l Z (a 1 0) (fun k => a 1 (k + 1)) Sn x) mvB_hasPerson q_343 rfl (by decide) 3 rfl rfl rfl (Nat.le_of_ble_eq_true rfl) dX_passes_5 [3, 4, 5, 6, 7, 8, 9, 10, 11, 12, 13, 14, 15] rfl (subX_1 Z a Sn Sm Sk T L U) (g_fn (ws1 := wX Z a Sn Sm Sk T L U) (st1 := [.int (hasPersonS Sn x)]) (putX_1 Z a Sn Sm Sk T L U Sn) rfl ?_)
  refine g_if_eq hX 22 dX_passes_8 (by decide) (fun c_8 => ?_) (fun c_8 => ?_)
  · refine g_aload_n hX dX_passes_22 0 rfl ?_
    refine g_iconst (v := (-1)) hX dX_passes_23 (by decide) ?_
    refine g_callV hX (con_X_refuse l Z a Sn Sm Sk T L U (-1) 1 (by decide) (by decide) (by decide) (by decide)) mvX_refuse q_163 rfl (by decide) 0 rfl rfl rfl (Nat.le_of_ble_eq_true rfl) dX_passes_24 [0, 1, 2, 3, 4, 5, 6, 7, 8, 9, 10, 11, 12, 13, 14, 15, 16, 17, 18, 19, 20, 21, 22, 23, 24, 25, 26, 27, 28, 29, 30, 31, 32, 33, 34, 35, 36, 37, 38, 39, 40, 41, 42, 43, 44, 45, 46, 47, 48, 49, 50, 51, 52, 53] rfl (subX_all Z a Sn Sm Sk T L U) (g_fn (ws1 := wX Z a Sn Sm Sk T L (rfU U 1)) (st1 := [.int (-1)]) (putX_all Z a Sn Sm Sk T L U Sn Sm Sk T L (rfU U 1)) rfl ?_)
    exact r_iret hX hQ dX_passes_27 rfl (by rw [show xf_passes Sn Sk T U nP x y = ((-1), Sn, Sk, T, rfU U 1) from by simp [xf_passes, c_8]]; exact ⟨rfl, _, _, rfl⟩)
  · refine g_aload_n hX dX_passes_11 0 rfl ?_
    refine g_get hX 0 rfl rfl 0 (by decide) uu_X q_131 rfl rfl dX_passes_12 ?_
    refine g_iload_n hX dX_passes_15 2 rfl ?_
    refine g_callV hX (con_B_hasLock l Z (a 1 0) (fun k => a 1 (k + 1)) Sn y) mvB_hasLock q_335 rfl (by decide) 3 rfl rfl rfl (Nat.le_of_ble_eq_true rfl) dX_passes_16 [3, 4, 5, 6, 7, 8, 9, 10, 11, 12, 13, 14, 15] rfl (subX_1 Z a Sn Sm Sk T L U) (g_fn (ws1 := wX Z a Sn Sm Sk T L U) (st1 := [.int (hasLockS Sn y)]) (putX_1 Z a Sn Sm Sk T L U Sn) rfl ?_)
    refine g_if_ne hX 28 dX_passes_19 (by decide) (fun c_19 => ?_) (fun c_19 => ?_)
    · obtain ⟨p, hp6, rfl⟩ := hasP_of hP hP5 c_8
      obtain ⟨g1, hg16, rfl⟩ := hasL_of hL hL7 c_19
      obtain ⟨c9, hc9, hc⟩ := hcy g1 hg16
      refine g_aload_n hX dX_passes_28 0 rfl ?_
      refine g_get hX 0 rfl rfl 0 (by decide) uu_X q_131 rfl rfl dX_passes_29 ?_
      refine g_iload_n hX dX_passes_32 1 rfl ?_
      refine g_iload_n hX dX_passes_33 2 rfl ?_
      refine g_callV hX (con_B_canPass l Z (a 1 0) (fun k => a 1 (k + 1)) Sn (nI p) (nI g1) nP nL hP hP5 hL hL7) mvB_canPass q_360 rfl (by decide) 3 rfl rfl rfl (Nat.le_of_ble_eq_true rfl) dX_passes_34 [3, 4, 5, 6, 7, 8, 9, 10, 11, 12, 13, 14, 15] rfl (subX_1 Z a Sn Sm Sk T L U) (g_fn (ws1 := wX Z a Sn Sm Sk T L U) (st1 := [.int (canPassS Sn (nI p) (nI g1))]) (putX_1 Z a Sn Sm Sk T L U Sn) rfl ?_)
      refine g_if_ne hX 47 dX_passes_37 (by decide) (fun c_37 => ?_) (fun c_37 => ?_)
      · refine g_aload_n hX dX_passes_47 0 rfl ?_
        refine g_get hX 0 rfl rfl 0 (by decide) uu_X q_131 rfl rfl dX_passes_48 ?_
        refine g_get hX 3 rfl rfl 14 (by decide) uu_B q_64 rfl rfl dX_passes_51 ?_
        refine g_aload_n hX dX_passes_54 0 rfl ?_
        refine g_get hX 0 rfl rfl 0 (by decide) uu_X q_131 rfl rfl dX_passes_55 ?_
        refine g_get hX 3 rfl rfl 5 (by decide) uu_B q_46 rfl rfl dX_passes_58 ?_
        refine g_iload_n hX dX_passes_61 2 rfl ?_
        refine g_ald (v := (Sn 5 g1)) hX 9 rfl g1 (by omega) (by decide) (rfl) (rfl) dX_passes_62 ?_
        refine g_iadd (z := ((Sn 12 2) + (Sn 5 g1))) hX dX_passes_63 (rfl) ?_
        refine g_sipush (v := 999) hX dX_passes_64 (by decide) ?_
        refine g_icmp_le hX 77 dX_passes_67 (by decide) (fun c_67 => ?_) (fun c_67 => ?_)
        · refine g_aload_n hX dX_passes_77 0 rfl ?_
          refine g_get hX 0 rfl rfl 0 (by decide) uu_X q_131 rfl rfl dX_passes_78 ?_
          refine g_iload_n hX dX_passes_81 1 rfl ?_
          refine g_iload_n hX dX_passes_82 2 rfl ?_
          refine g_callV hX (con_B_goThrough l Z (a 1 0) (fun k => a 1 (k + 1)) Sn p g1 c9 nP nL hp6 hg16 (canP_1 c_37) hc (by omega) hP hP5 hL hL7) mvB_goThrough q_365 rfl (by decide) 3 rfl rfl rfl (Nat.le_of_ble_eq_true rfl) dX_passes_83 [3, 4, 5, 6, 7, 8, 9, 10, 11, 12, 13, 14, 15] rfl (subX_1 Z a Sn Sm Sk T L U) (g_fn (ws1 := wX Z a (goS nP Sn p g1) Sm Sk T L U) (st1 := []) (putX_1 Z a Sn Sm Sk T L U (goS nP Sn p g1)) rfl ?_)
          refine g_aload_n hX dX_passes_86 0 rfl ?_
          refine g_get hX 0 rfl rfl 0 (by decide) uu_X q_131 rfl rfl dX_passes_87 ?_
          refine g_get hX 3 rfl rfl 9 (by decide) uu_B q_55 rfl rfl dX_passes_90 ?_
          refine g_iload_n hX dX_passes_93 1 rfl ?_
          refine g_ald (v := ((goS nP Sn p g1) 8 p)) hX 12 rfl p (by omega) (by decide) (rfl) (rfl) dX_passes_94 ?_
          exact r_iret hX hQ dX_passes_95 rfl (by rw [show xf_passes Sn Sk T U nP (nI p) (nI g1) = (((goS nP Sn p g1) 8 p), goS nP Sn p g1, Sk, T, U) from by simp [xf_passes, c_8, c_19, c_37, c_67, nI_clamp (show p < 2 ^ 31 by omega), nI_clamp (show g1 < 2 ^ 31 by omega)]]; exact ⟨rfl, _, _, rfl⟩)
        · refine g_aload_n hX dX_passes_70 0 rfl ?_
          refine g_bipush (v := (-6)) hX dX_passes_71 (by decide) ?_
          refine g_callV hX (con_X_refuse l Z a Sn Sm Sk T L U (-6) 6 (by decide) (by decide) (by decide) (by decide)) mvX_refuse q_163 rfl (by decide) 0 rfl rfl rfl (Nat.le_of_ble_eq_true rfl) dX_passes_73 [0, 1, 2, 3, 4, 5, 6, 7, 8, 9, 10, 11, 12, 13, 14, 15, 16, 17, 18, 19, 20, 21, 22, 23, 24, 25, 26, 27, 28, 29, 30, 31, 32, 33, 34, 35, 36, 37, 38, 39, 40, 41, 42, 43, 44, 45, 46, 47, 48, 49, 50, 51, 52, 53] rfl (subX_all Z a Sn Sm Sk T L U) (g_fn (ws1 := wX Z a Sn Sm Sk T L (rfU U 6)) (st1 := [.int (-6)]) (putX_all Z a Sn Sm Sk T L U Sn Sm Sk T L (rfU U 6)) rfl ?_)
          exact r_iret hX hQ dX_passes_76 rfl (by rw [show xf_passes Sn Sk T U nP (nI p) (nI g1) = ((-6), Sn, Sk, T, rfU U 6) from by simp [xf_passes, c_8, c_19, c_37, c_67, nI_clamp (show p < 2 ^ 31 by omega), nI_clamp (show g1 < 2 ^ 31 by omega)]]; exact ⟨rfl, _, _, rfl⟩)
      · refine g_aload_n hX dX_passes_40 0 rfl ?_
        refine g_bipush (v := (-3)) hX dX_passes_41 (by decide) ?_
        refine g_callV hX (con_X_refuse l Z a Sn Sm Sk T L U (-3) 3 (by decide) (by decide) (by decide) (by decide)) mvX_refuse q_163 rfl (by decide) 0 rfl rfl rfl (Nat.le_of_ble_eq_true rfl) dX_passes_43 [0, 1, 2, 3, 4, 5, 6, 7, 8, 9, 10, 11, 12, 13, 14, 15, 16, 17, 18, 19, 20, 21, 22, 23, 24, 25, 26, 27, 28, 29, 30, 31, 32, 33, 34, 35, 36, 37, 38, 39, 40, 41, 42, 43, 44, 45, 46, 47, 48, 49, 50, 51, 52, 53] rfl (subX_all Z a Sn Sm Sk T L U) (g_fn (ws1 := wX Z a Sn Sm Sk T L (rfU U 3)) (st1 := [.int (-3)]) (putX_all Z a Sn Sm Sk T L U Sn Sm Sk T L (rfU U 3)) rfl ?_)
        exact r_iret hX hQ dX_passes_46 rfl (by rw [show xf_passes Sn Sk T U nP (nI p) (nI g1) = ((-3), Sn, Sk, T, rfU U 3) from by simp [xf_passes, c_8, c_19, c_37, nI_clamp (show p < 2 ^ 31 by omega), nI_clamp (show g1 < 2 ^ 31 by omega)]]; exact ⟨rfl, _, _, rfl⟩)
    · refine g_aload_n hX dX_passes_22 0 rfl ?_
      refine g_iconst (v := (-1)) hX dX_passes_23 (by decide) ?_
      refine g_callV hX (con_X_refuse l Z a Sn Sm Sk T L U (-1) 1 (by decide) (by decide) (by decide) (by decide)) mvX_refuse q_163 rfl (by decide) 0 rfl rfl rfl (Nat.le_of_ble_eq_true rfl) dX_passes_24 [0, 1, 2, 3, 4, 5, 6, 7, 8, 9, 10, 11, 12, 13, 14, 15, 16, 17, 18, 19, 20, 21, 22, 23, 24, 25, 26, 27, 28, 29, 30, 31, 32, 33, 34, 35, 36, 37, 38, 39, 40, 41, 42, 43, 44, 45, 46, 47, 48, 49, 50, 51, 52, 53] rfl (subX_all Z a Sn Sm Sk T L U) (g_fn (ws1 := wX Z a Sn Sm Sk T L (rfU U 1)) (st1 := [.int (-1)]) (putX_all Z a Sn Sm Sk T L U Sn Sm Sk T L (rfU U 1)) rfl ?_)
      exact r_iret hX hQ dX_passes_27 rfl (by rw [show xf_passes Sn Sk T U nP x y = ((-1), Sn, Sk, T, rfU U 1) from by simp [xf_passes, c_8, c_19]]; exact ⟨rfl, _, _, rfl⟩)

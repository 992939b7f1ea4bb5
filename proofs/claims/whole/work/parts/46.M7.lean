/-! the Model: first calls -/
theorem hasL_of8 {S : St} {x : Int32} {nL : Nat} (hL : S 12 0 = nI nL) (hL8 : nL ≤ 8) (h : ¬ hasLockS S x = 0) : ∃ k, k < nL ∧ x = nI k := by
  unfold hasLockS at h
  by_cases h1 : x < 0
  · simp [h1] at h
  · by_cases h2 : S 12 0 ≤ x
    · simp [h1, h2] at h
    · obtain ⟨j, hj, rfl⟩ := nI_of h1
      rw [hL, nI_leI (by omega) hj] at h2
      exact ⟨j, by omega, rfl⟩
def mf_room (S : St) (nP : Nat) (x w : Int32) : Int32 × St := if isRoomS x = 0 then (-1, nob S 1) else if w = 0 then (S 0 (cl x), S) else if w = 1 then (S 1 (cl x), S) else if w = 2 then (cnt (S 8) x nP, S) else if w = 3 then (mbs S nP x nP, S) else (-2, nob S 2)
def mf_lock (S : St) (x w : Int32) : Int32 × St := if hasLockS S x = 0 then (-1, nob S 1) else if w = 0 then (S 2 (cl x), S) else if w = 1 then (S 3 (cl x), S) else if w = 2 then (S 4 (cl x), S) else if w = 3 then (S 5 (cl x), S) else if w = 4 then (S 6 (cl x), S) else (-2, nob S 2)
def mf_person (S : St) (nP : Nat) (x w : Int32) : Int32 × St := if hasPersonS S x = 0 then (-1, nob S 1) else if w = 0 then (S 7 (cl x), S) else if w = 1 then (S 8 (cl x), S) else if w = 2 then (S 9 (cl x), S) else if w = 3 then (S 10 (cl x), S) else if w = 4 then (mb S nP (cl x), S) else (-2, nob S 2)
def mf_open (S : St) (x w : Int32) : Int32 × St := if hasLockS S x = 0 then (-1, nob S 1) else if wthS w 0 2 = 0 then (-2, nob S 2) else if w ≤ 0 then (S 6 (cl x), sw S 6 (cl x) w) else if S 6 (cl x) ≤ 0 then (S 6 (cl x), sw S 6 (cl x) w) else if S 6 (cl x) = w then (S 6 (cl x), sw S 6 (cl x) w) else (-3, nob S 3)
def mf_leak (S : St) (x v : Int32) : Int32 × St := if isRoomS x = 0 then (-1, nob S 1) else if 0 ≤ v then (if v ≤ 9 then (S 1 (cl x), sw S 1 (cl x) v) else (-6, nob S 6)) else (-4, nob S 4)
def mf_row (S : St) (n : Nat) (v : Int32) : Int32 × St := if 0 ≤ v then (if 999 < v then (-6, nob S 6) else if ¬ nI n = 12 then (nI (n + 1), sw (sw S 12 6 (nI (n + 1))) 15 n v) else (-6, nob S 6)) else (-4, nob S 4)
def mf_clear (S : St) : Int32 × St := (S 12 6, sw S 12 6 0)
def mf_image (S : St) : Int32 × St := (S 12 2, sr (sw S 12 7 1) 17 (pk (sw S 12 7 1)))
def mf_on (S : St) : Int32 × St := if ¬ S 12 7 = 0 then (up S (S 17) 12 2, up S (S 17)) else (-3, nob S 3)
def mf_minutes (S : St) (nP : Nat) (x : Int32) : Int32 × St := if 1 ≤ x then (if 99 < x then (-6, nob S 6) else if S 12 2 + x ≤ 999 then (liveN nP S (cl x) 12 3 - S 12 3, liveN nP S (cl x)) else (-6, nob S 6)) else (-4, nob S 4)
set_option maxHeartbeats 4000000 in
set_option maxRecDepth 20000 in
theorem con_M_room (l : Launch) (Z : ZZ) (h : Nat) (q : Nat → Nat) (S : St) (x w : Int32) (nP : Nat) (hP : S 12 1 = nI nP) (hP5 : nP ≤ 5) : Con l Z yM_room cM_room 3 (some .int) 3 [.ref h, .int x, .int w] (wM Z h q S) (MP Z h q (mf_room S nP x w)) := by
  refine Con.of (by decide) (Nat.le_of_ble_eq_true rfl) (fun X hX hQ => ?_)
  show G X Z (wM Z h q S) 0 [(0, .ref h), (1, .int x), (2, .int w)] []
  refine g_iload_n hX dM_room_0 1 rfl ?_
  refine g_callS hX (con_M_isRoom l Z x) msM_isRoom q_777 rfl (by decide) rfl (Nat.le_of_ble_eq_true rfl) dM_room_1 [] rfl (rfl) (g_fn (ws1 := wM Z h q S) (st1 := [.int (isRoomS x)]) (rfl) rfl ?_)
  refine g_if_ne hX 13 dM_room_4 (by decide) (fun c_4 => ?_) (fun c_4 => ?_)
  · obtain ⟨r, hr6, rfl⟩ := isRoom_of c_4
    refine g_iload_n hX dM_room_13 2 rfl ?_
    by_cases c_14_0 : w = 0
    · refine g_tabIn (off := 30) hX 44 dM_room_14 (by rw [c_14_0]; decide) (by rw [c_14_0]; decide) (by rw [c_14_0]; decide) (by decide) ?_
      refine g_aload_n hX dM_room_44 0 rfl ?_
      refine g_get hX 0 rfl rfl 0 (by decide) uu_M q_584 rfl rfl dM_room_45 ?_
      refine g_iload_n hX dM_room_48 1 rfl ?_
      refine g_ald (v := (S 0 r)) hX 1 rfl r (by omega) (by decide) (rfl) (rfl) dM_room_49 ?_
      exact r_iret hX hQ dM_room_50 keysM (by rw [show mf_room S nP (nI r) w = ((S 0 r), S) from by simp [mf_room, c_4, c_14_0, nI_clamp (show r < 2 ^ 31 by omega)]]; exact MP_mk)
    by_cases c_14_1 : w = 1
    · refine g_tabIn (off := 37) hX 51 dM_room_14 (by rw [c_14_1]; decide) (by rw [c_14_1]; decide) (by rw [c_14_1]; decide) (by decide) ?_
      refine g_aload_n hX dM_room_51 0 rfl ?_
      refine g_get hX 0 rfl rfl 1 (by decide) uu_M q_585 rfl rfl dM_room_52 ?_
      refine g_iload_n hX dM_room_55 1 rfl ?_
      refine g_ald (v := (S 1 r)) hX 2 rfl r (by omega) (by decide) (rfl) (rfl) dM_room_56 ?_
      exact r_iret hX hQ dM_room_57 keysM (by rw [show mf_room S nP (nI r) w = ((S 1 r), S) from by simp [mf_room, c_4, c_14_0, c_14_1, nI_clamp (show r < 2 ^ 31 by omega)]]; exact MP_mk)
    by_cases c_14_2 : w = 2
    · refine g_tabIn (off := 44) hX 58 dM_room_14 (by rw [c_14_2]; decide) (by rw [c_14_2]; decide) (by rw [c_14_2]; decide) (by decide) ?_
      refine g_aload_n hX dM_room_58 0 rfl ?_
      refine g_iload_n hX dM_room_59 1 rfl ?_
      refine g_callV hX (con_M_there l Z h q S (nI r) nP hP hP5) mvM_there q_780 rfl (by decide) 0 rfl rfl rfl (Nat.le_of_ble_eq_true rfl) dM_room_60 [0, 1, 2, 3, 4, 5, 6, 7, 8, 9, 10, 11, 12, 13, 14, 15, 16, 17, 18, 19, 20, 21] rfl (subM_all Z h q S) (g_fn (ws1 := wM Z h q S) (st1 := [.int (cnt (S 8) (nI r) nP)]) (putM_all Z h q S S) rfl ?_)
      exact r_iret hX hQ dM_room_63 keysM (by rw [show mf_room S nP (nI r) w = ((cnt (S 8) (nI r) nP), S) from by simp [mf_room, c_4, c_14_0, c_14_1, c_14_2, nI_clamp (show r < 2 ^ 31 by omega)]]; exact MP_mk)
    by_cases c_14_3 : w = 3
    · refine g_tabIn (off := 50) hX 64 dM_room_14 (by rw [c_14_3]; decide) (by rw [c_14_3]; decide) (by rw [c_14_3]; decide) (by decide) ?_
      refine g_aload_n hX dM_room_64 0 rfl ?_
      refine g_iload_n hX dM_room_65 1 rfl ?_
      refine g_callV hX (con_M_breathed l Z h q S (nI r) nP hP hP5) mvM_breathed q_784 rfl (by decide) 0 rfl rfl rfl (Nat.le_of_ble_eq_true rfl) dM_room_66 [0, 1, 2, 3, 4, 5, 6, 7, 8, 9, 10, 11, 12, 13, 14, 15, 16, 17, 18, 19, 20, 21] rfl (subM_all Z h q S) (g_fn (ws1 := wM Z h q S) (st1 := [.int (mbs S nP (nI r) nP)]) (putM_all Z h q S S) rfl ?_)
      exact r_iret hX hQ dM_room_69 keysM (by rw [show mf_room S nP (nI r) w = ((mbs S nP (nI r) nP), S) from by simp [mf_room, c_4, c_14_0, c_14_1, c_14_2, c_14_3, nI_clamp (show r < 2 ^ 31 by omega)]]; exact MP_mk)
    refine g_tabOut hX 70 dM_room_14 (by have := ne_toInt c_14_0 (z := 0) (by decide); have := ne_toInt c_14_1 (z := 1) (by decide); have := ne_toInt c_14_2 (z := 2) (by decide); have := ne_toInt c_14_3 (z := 3) (by decide); omega) (by decide) ?_
    refine g_aload_n hX dM_room_70 0 rfl ?_
    refine g_bipush (v := (-2)) hX dM_room_71 (by decide) ?_
    refine g_callV hX (con_M_no l Z h q S (-2) 2 (by decide) (by decide)) mvM_no q_676 rfl (by decide) 0 rfl rfl rfl (Nat.le_of_ble_eq_true rfl) dM_room_73 [0, 1, 2, 3, 4, 5, 6, 7, 8, 9, 10, 11, 12, 13, 14, 15, 16, 17, 18, 19, 20, 21] rfl (subM_all Z h q S) (g_fn (ws1 := wM Z h q (nob S 2)) (st1 := [.int (-2)]) (putM_all Z h q S (nob S 2)) rfl ?_)
    exact r_iret hX hQ dM_room_76 keysM (by rw [show mf_room S nP (nI r) w = ((-2), nob S 2) from by simp [mf_room, c_4, c_14_0, c_14_1, c_14_2, c_14_3, nI_clamp (show r < 2 ^ 31 by omega)]]; exact MP_mk)
  · refine g_aload_n hX dM_room_7 0 rfl ?_
    refine g_iconst (v := (-1)) hX dM_room_8 (by decide) ?_
    refine g_callV hX (con_M_no l Z h q S (-1) 1 (by decide) (by decide)) mvM_no q_676 rfl (by decide) 0 rfl rfl rfl (Nat.le_of_ble_eq_true rfl) dM_room_9 [0, 1, 2, 3, 4, 5, 6, 7, 8, 9, 10, 11, 12, 13, 14, 15, 16, 17, 18, 19, 20, 21] rfl (subM_all Z h q S) (g_fn (ws1 := wM Z h q (nob S 1)) (st1 := [.int (-1)]) (putM_all Z h q S (nob S 1)) rfl ?_)
    exact r_iret hX hQ dM_room_12 keysM (by rw [show mf_room S nP x w = ((-1), nob S 1) from by simp [mf_room, c_4]]; exact MP_mk)
set_option maxHeartbeats 4000000 in
set_option maxRecDepth 20000 in
theorem con_M_lock (l : Launch) (Z : ZZ) (h : Nat) (q : Nat → Nat) (S : St) (x w : Int32) (nL : Nat) (hL : S 12 0 = nI nL) (hL8 : nL ≤ 8) : Con l Z yM_lock cM_lock 3 (some .int) 2 [.ref h, .int x, .int w] (wM Z h q S) (MP Z h q (mf_lock S x w)) := by
  refine Con.of (by decide) (Nat.le_of_ble_eq_true rfl) (fun X hX hQ => ?_)
  show G X Z (wM Z h q S) 0 [(0, .ref h), (1, .int x), (2, .int w)] []
  refine g_aload_n hX dM_lock_0 0 rfl ?_
  refine g_iload_n hX dM_lock_1 1 rfl ?_
  refine g_callV hX (con_M_isLock l Z h q S x nL hL hL8) mvM_isLock q_796 rfl (by decide) 0 rfl rfl rfl (Nat.le_of_ble_eq_true rfl) dM_lock_2 [0, 1, 2, 3, 4, 5, 6, 7, 8, 9, 10, 11, 12, 13, 14, 15, 16, 17, 18, 19, 20, 21] rfl (subM_all Z h q S) (g_fn (ws1 := wM Z h q S) (st1 := [.int (hasLockS S x)]) (putM_all Z h q S S) rfl ?_)
  refine g_if_ne hX 14 dM_lock_5 (by decide) (fun c_5 => ?_) (fun c_5 => ?_)
  · obtain ⟨g1, hg16, rfl⟩ := hasL_of8 hL hL8 c_5
    refine g_iload_n hX dM_lock_14 2 rfl ?_
    by_cases c_15_0 : w = 0
    · refine g_tabIn (off := 33) hX 48 dM_lock_15 (by rw [c_15_0]; decide) (by rw [c_15_0]; decide) (by rw [c_15_0]; decide) (by decide) ?_
      refine g_aload_n hX dM_lock_48 0 rfl ?_
      refine g_get hX 0 rfl rfl 3 (by decide) uu_M q_587 rfl rfl dM_lock_49 ?_
      refine g_iload_n hX dM_lock_52 1 rfl ?_
      refine g_ald (v := (S 2 g1)) hX 3 rfl g1 (by omega) (by decide) (rfl) (rfl) dM_lock_53 ?_
      exact r_iret hX hQ dM_lock_54 keysM (by rw [show mf_lock S (nI g1) w = ((S 2 g1), S) from by simp [mf_lock, c_5, c_15_0, nI_clamp (show g1 < 2 ^ 31 by omega)]]; exact MP_mk)
    by_cases c_15_1 : w = 1
    · refine g_tabIn (off := 40) hX 55 dM_lock_15 (by rw [c_15_1]; decide) (by rw [c_15_1]; decide) (by rw [c_15_1]; decide) (by decide) ?_
      refine g_aload_n hX dM_lock_55 0 rfl ?_
      refine g_get hX 0 rfl rfl 4 (by decide) uu_M q_588 rfl rfl dM_lock_56 ?_
      refine g_iload_n hX dM_lock_59 1 rfl ?_
      refine g_ald (v := (S 3 g1)) hX 4 rfl g1 (by omega) (by decide) (rfl) (rfl) dM_lock_60 ?_
      exact r_iret hX hQ dM_lock_61 keysM (by rw [show mf_lock S (nI g1) w = ((S 3 g1), S) from by simp [mf_lock, c_5, c_15_0, c_15_1, nI_clamp (show g1 < 2 ^ 31 by omega)]]; exact MP_mk)
    by_cases c_15_2 : w = 2
    · refine g_tabIn (off := 47) hX 62 dM_lock_15 (by rw [c_15_2]; decide) (by rw [c_15_2]; decide) (by rw [c_15_2]; decide) (by decide) ?_
      refine g_aload_n hX dM_lock_62 0 rfl ?_
      refine g_get hX 0 rfl rfl 5 (by decide) uu_M q_589 rfl rfl dM_lock_63 ?_
      refine g_iload_n hX dM_lock_66 1 rfl ?_
      refine g_ald (v := (S 4 g1)) hX 5 rfl g1 (by omega) (by decide) (rfl) (rfl) dM_lock_67 ?_
      exact r_iret hX hQ dM_lock_68 keysM (by rw [show mf_lock S (nI g1) w = ((S 4 g1), S) from by simp [mf_lock, c_5, c_15_0, c_15_1, c_15_2, nI_clamp (show g1 < 2 ^ 31 by omega)]]; exact MP_mk)
    by_cases c_15_3 : w = 3
    · refine g_tabIn (off := 54) hX 69 dM_lock_15 (by rw [c_15_3]; decide) (by rw [c_15_3]; decide) (by rw [c_15_3]; decide) (by decide) ?_
      refine g_aload_n hX dM_lock_69 0 rfl ?_
      refine g_get hX 0 rfl rfl 6 (by decide) uu_M q_590 rfl rfl dM_lock_70 ?_
      refine g_iload_n hX dM_lock_73 1 rfl ?_
      refine g_ald (v := (S 5 g1)) hX 6 rfl g1 (by omega) (by decide) (rfl) (rfl) dM_lock_74 ?_
      exact r_iret hX hQ dM_lock_75 keysM (by rw [show mf_lock S (nI g1) w = ((S 5 g1), S) from by simp [mf_lock, c_5, c_15_0, c_15_1, c_15_2, c_15_3, nI_clamp (show g1 < 2 ^ 31 by omega)]]; exact MP_mk)
    by_cases c_15_4 : w = 4
    · refine g_tabIn (off := 61) hX 76 dM_lock_15 (by rw [c_15_4]; decide) (by rw [c_15_4]; decide) (by rw [c_15_4]; decide) (by decide) ?_
      refine g_aload_n hX dM_lock_76 0 rfl ?_
      refine g_get hX 0 rfl rfl 7 (by decide) uu_M q_591 rfl rfl dM_lock_77 ?_
      refine g_iload_n hX dM_lock_80 1 rfl ?_
      refine g_ald (v := (S 6 g1)) hX 7 rfl g1 (by omega) (by decide) (rfl) (rfl) dM_lock_81 ?_
      exact r_iret hX hQ dM_lock_82 keysM (by rw [show mf_lock S (nI g1) w = ((S 6 g1), S) from by simp [mf_lock, c_5, c_15_0, c_15_1, c_15_2, c_15_3, c_15_4, nI_clamp (show g1 < 2 ^ 31 by omega)]]; exact MP_mk)
    refine g_tabOut hX 83 dM_lock_15 (by have := ne_toInt c_15_0 (z := 0) (by decide); have := ne_toInt c_15_1 (z := 1) (by decide); have := ne_toInt c_15_2 (z := 2) (by decide); have := ne_toInt c_15_3 (z := 3) (by decide); have := ne_toInt c_15_4 (z := 4) (by decide); omega) (by decide) ?_
    refine g_aload_n hX dM_lock_83 0 rfl ?_
    refine g_bipush (v := (-2)) hX dM_lock_84 (by decide) ?_
    refine g_callV hX (con_M_no l Z h q S (-2) 2 (by decide) (by decide)) mvM_no q_676 rfl (by decide) 0 rfl rfl rfl (Nat.le_of_ble_eq_true rfl) dM_lock_86 [0, 1, 2, 3, 4, 5, 6, 7, 8, 9, 10, 11, 12, 13, 14, 15, 16, 17, 18, 19, 20, 21] rfl (subM_all Z h q S) (g_fn (ws1 := wM Z h q (nob S 2)) (st1 := [.int (-2)]) (putM_all Z h q S (nob S 2)) rfl ?_)
    exact r_iret hX hQ dM_lock_89 keysM (by rw [show mf_lock S (nI g1) w = ((-2), nob S 2) from by simp [mf_lock, c_5, c_15_0, c_15_1, c_15_2, c_15_3, c_15_4, nI_clamp (show g1 < 2 ^ 31 by omega)]]; exact MP_mk)
  · refine g_aload_n hX dM_lock_8 0 rfl ?_
    refine g_iconst (v := (-1)) hX dM_lock_9 (by decide) ?_
    refine g_callV hX (con_M_no l Z h q S (-1) 1 (by decide) (by decide)) mvM_no q_676 rfl (by decide) 0 rfl rfl rfl (Nat.le_of_ble_eq_true rfl) dM_lock_10 [0, 1, 2, 3, 4, 5, 6, 7, 8, 9, 10, 11, 12, 13, 14, 15, 16, 17, 18, 19, 20, 21] rfl (subM_all Z h q S) (g_fn (ws1 := wM Z h q (nob S 1)) (st1 := [.int (-1)]) (putM_all Z h q S (nob S 1)) rfl ?_)
    exact r_iret hX hQ dM_lock_13 keysM (by rw [show mf_lock S x w = ((-1), nob S 1) from by simp [mf_lock, c_5]]; exact MP_mk)
set_option maxHeartbeats 4000000 in
set_option maxRecDepth 20000 in
theorem con_M_person (l : Launch) (Z : ZZ) (h : Nat) (q : Nat → Nat) (S : St) (x w : Int32) (nP : Nat) (hP : S 12 1 = nI nP) (hP5 : nP ≤ 5) : Con l Z yM_person cM_person 3 (some .int) 2 [.ref h, .int x, .int w] (wM Z h q S) (MP Z h q (mf_person S nP x w)) := by
  refine Con.of (by decide) (Nat.le_of_ble_eq_true rfl) (fun X hX hQ => ?_)
  show G X Z (wM Z h q S) 0 [(0, .ref h), (1, .int x), (2, .int w)] []
  refine g_aload_n hX dM_person_0 0 rfl ?_
  refine g_iload_n hX dM_person_1 1 rfl ?_
  refine g_callV hX (con_M_isOne l Z h q S x nP hP hP5) mvM_isOne q_804 rfl (by decide) 0 rfl rfl rfl (Nat.le_of_ble_eq_true rfl) dM_person_2 [0, 1, 2, 3, 4, 5, 6, 7, 8, 9, 10, 11, 12, 13, 14, 15, 16, 17, 18, 19, 20, 21] rfl (subM_all Z h q S) (g_fn (ws1 := wM Z h q S) (st1 := [.int (hasPersonS S x)]) (putM_all Z h q S S) rfl ?_)
  refine g_if_ne hX 14 dM_person_5 (by decide) (fun c_5 => ?_) (fun c_5 => ?_)
  · obtain ⟨p, hp6, rfl⟩ := hasP_of hP hP5 c_5
    refine g_iload_n hX dM_person_14 2 rfl ?_
    by_cases c_15_0 : w = 0
    · refine g_tabIn (off := 33) hX 48 dM_person_15 (by rw [c_15_0]; decide) (by rw [c_15_0]; decide) (by rw [c_15_0]; decide) (by decide) ?_
      refine g_aload_n hX dM_person_48 0 rfl ?_
      refine g_get hX 0 rfl rfl 9 (by decide) uu_M q_593 rfl rfl dM_person_49 ?_
      refine g_iload_n hX dM_person_52 1 rfl ?_
      refine g_ald (v := (S 7 p)) hX 8 rfl p (by omega) (by decide) (rfl) (rfl) dM_person_53 ?_
      exact r_iret hX hQ dM_person_54 keysM (by rw [show mf_person S nP (nI p) w = ((S 7 p), S) from by simp [mf_person, c_5, c_15_0, nI_clamp (show p < 2 ^ 31 by omega)]]; exact MP_mk)
    by_cases c_15_1 : w = 1
    · refine g_tabIn (off := 40) hX 55 dM_person_15 (by rw [c_15_1]; decide) (by rw [c_15_1]; decide) (by rw [c_15_1]; decide) (by decide) ?_
      refine g_aload_n hX dM_person_55 0 rfl ?_
      refine g_get hX 0 rfl rfl 10 (by decide) uu_M q_594 rfl rfl dM_person_56 ?_
      refine g_iload_n hX dM_person_59 1 rfl ?_
      refine g_ald (v := (S 8 p)) hX 9 rfl p (by omega) (by decide) (rfl) (rfl) dM_person_60 ?_
      exact r_iret hX hQ dM_person_61 keysM (by rw [show mf_person S nP (nI p) w = ((S 8 p), S) from by simp [mf_person, c_5, c_15_0, c_15_1, nI_clamp (show p < 2 ^ 31 by omega)]]; exact MP_mk)
    by_cases c_15_2 : w = 2
    · refine g_tabIn (off := 47) hX 62 dM_person_15 (by rw [c_15_2]; decide) (by rw [c_15_2]; decide) (by rw [c_15_2]; decide) (by decide) ?_
      refine g_aload_n hX dM_person_62 0 rfl ?_
      refine g_get hX 0 rfl rfl 11 (by decide) uu_M q_595 rfl rfl dM_person_63 ?_
      refine g_iload_n hX dM_person_66 1 rfl ?_
      refine g_ald (v := (S 9 p)) hX 10 rfl p (by omega) (by decide) (rfl) (rfl) dM_person_67 ?_
      exact r_iret hX hQ dM_person_68 keysM (by rw [show mf_person S nP (nI p) w = ((S 9 p), S) from by simp [mf_person, c_5, c_15_0, c_15_1, c_15_2, nI_clamp (show p < 2 ^ 31 by omega)]]; exact MP_mk)
    by_cases c_15_3 : w = 3
    · refine g_tabIn (off := 54) hX 69 dM_person_15 (by rw [c_15_3]; decide) (by rw [c_15_3]; decide) (by rw [c_15_3]; decide) (by decide) ?_
      refine g_aload_n hX dM_person_69 0 rfl ?_
      refine g_get hX 0 rfl rfl 12 (by decide) uu_M q_596 rfl rfl dM_person_70 ?_
      refine g_iload_n hX dM_person_73 1 rfl ?_
      refine g_ald (v := (S 10 p)) hX 11 rfl p (by omega) (by decide) (rfl) (rfl) dM_person_74 ?_
      exact r_iret hX hQ dM_person_75 keysM (by rw [show mf_person S nP (nI p) w = ((S 10 p), S) from by simp [mf_person, c_5, c_15_0, c_15_1, c_15_2, c_15_3, nI_clamp (show p < 2 ^ 31 by omega)]]; exact MP_mk)
    by_cases c_15_4 : w = 4
    · refine g_tabIn (off := 61) hX 76 dM_person_15 (by rw [c_15_4]; decide) (by rw [c_15_4]; decide) (by rw [c_15_4]; decide) (by decide) ?_
      refine g_aload_n hX dM_person_76 0 rfl ?_
      refine g_iload_n hX dM_person_77 1 rfl ?_
      refine g_callV hX (con_M_breath l Z h q S p nP hP hP5 (by omega)) mvM_breath q_788 rfl (by decide) 0 rfl rfl rfl (Nat.le_of_ble_eq_true rfl) dM_person_78 [0, 1, 2, 3, 4, 5, 6, 7, 8, 9, 10, 11, 12, 13, 14, 15, 16, 17, 18, 19, 20, 21] rfl (subM_all Z h q S) (g_fn (ws1 := wM Z h q S) (st1 := [.int (mb S nP p)]) (putM_all Z h q S S) rfl ?_)
      exact r_iret hX hQ dM_person_81 keysM (by rw [show mf_person S nP (nI p) w = ((mb S nP p), S) from by simp [mf_person, c_5, c_15_0, c_15_1, c_15_2, c_15_3, c_15_4, nI_clamp (show p < 2 ^ 31 by omega)]]; exact MP_mk)
    refine g_tabOut hX 82 dM_person_15 (by have := ne_toInt c_15_0 (z := 0) (by decide); have := ne_toInt c_15_1 (z := 1) (by decide); have := ne_toInt c_15_2 (z := 2) (by decide); have := ne_toInt c_15_3 (z := 3) (by decide); have := ne_toInt c_15_4 (z := 4) (by decide); omega) (by decide) ?_
    refine g_aload_n hX dM_person_82 0 rfl ?_
    refine g_bipush (v := (-2)) hX dM_person_83 (by decide) ?_
    refine g_callV hX (con_M_no l Z h q S (-2) 2 (by decide) (by decide)) mvM_no q_676 rfl (by decide) 0 rfl rfl rfl (Nat.le_of_ble_eq_true rfl) dM_person_85 [0, 1, 2, 3, 4, 5, 6, 7, 8, 9, 10, 11, 12, 13, 14, 15, 16, 17, 18, 19, 20, 21] rfl (subM_all Z h q S) (g_fn (ws1 := wM Z h q (nob S 2)) (st1 := [.int (-2)]) (putM_all Z h q S (nob S 2)) rfl ?_)
    exact r_iret hX hQ dM_person_88 keysM (by rw [show mf_person S nP (nI p) w = ((-2), nob S 2) from by simp [mf_person, c_5, c_15_0, c_15_1, c_15_2, c_15_3, c_15_4, nI_clamp (show p < 2 ^ 31 by omega)]]; exact MP_mk)
  · refine g_aload_n hX dM_person_8 0 rfl ?_
    refine g_iconst (v := (-1)) hX dM_person_9 (by decide) ?_
    refine g_callV hX (con_M_no l Z h q S (-1) 1 (by decide) (by decide)) mvM_no q_676 rfl (by decide) 0 rfl rfl rfl (Nat.le_of_ble_eq_true rfl) dM_person_10 [0, 1, 2, 3, 4, 5, 6, 7, 8, 9, 10, 11, 12, 13, 14, 15, 16, 17, 18, 19, 20, 21] rfl (subM_all Z h q S) (g_fn (ws1 := wM Z h q (nob S 1)) (st1 := [.int (-1)]) (putM_all Z h q S (nob S 1)) rfl ?_)
    exact r_iret hX hQ dM_person_13 keysM (by rw [show mf_person S nP x w = ((-1), nob S 1) from by simp [mf_person, c_5]]; exact MP_mk)
set_option maxHeartbeats 4000000 in
set_option maxRecDepth 20000 in
theorem con_M_open (l : Launch) (Z : ZZ) (h : Nat) (q : Nat → Nat) (S : St) (x w : Int32) (nL : Nat) (hL : S 12 0 = nI nL) (hL8 : nL ≤ 8) : Con l Z yM_open cM_open 4 (some .int) 2 [.ref h, .int x, .int w] (wM Z h q S) (MP Z h q (mf_open S x w)) := by
  refine Con.of (by decide) (Nat.le_of_ble_eq_true rfl) (fun X hX hQ => ?_)
  show G X Z (wM Z h q S) 0 [(0, .ref h), (1, .int x), (2, .int w)] []
  refine g_aload_n hX dM_open_0 0 rfl ?_
  refine g_iload_n hX dM_open_1 1 rfl ?_
  refine g_callV hX (con_M_isLock l Z h q S x nL hL hL8) mvM_isLock q_796 rfl (by decide) 0 rfl rfl rfl (Nat.le_of_ble_eq_true rfl) dM_open_2 [0, 1, 2, 3, 4, 5, 6, 7, 8, 9, 10, 11, 12, 13, 14, 15, 16, 17, 18, 19, 20, 21] rfl (subM_all Z h q S) (g_fn (ws1 := wM Z h q S) (st1 := [.int (hasLockS S x)]) (putM_all Z h q S S) rfl ?_)
  refine g_if_ne hX 14 dM_open_5 (by decide) (fun c_5 => ?_) (fun c_5 => ?_)
  · obtain ⟨g1, hg16, rfl⟩ := hasL_of8 hL hL8 c_5
    refine g_iload_n hX dM_open_14 2 rfl ?_
    refine g_iconst (v := 0) hX dM_open_15 (by decide) ?_
    refine g_iconst (v := 2) hX dM_open_16 (by decide) ?_
    refine g_callS hX (con_M_within l Z w 0 2) msM_within q_762 rfl (by decide) rfl (Nat.le_of_ble_eq_true rfl) dM_open_17 [] rfl (rfl) (g_fn (ws1 := wM Z h q S) (st1 := [.int (wthS w 0 2)]) (rfl) rfl ?_)
    refine g_if_ne hX 30 dM_open_20 (by decide) (fun c_20 => ?_) (fun c_20 => ?_)
    · refine g_aload_n hX dM_open_30 0 rfl ?_
      refine g_get hX 0 rfl rfl 7 (by decide) uu_M q_591 rfl rfl dM_open_31 ?_
      refine g_iload_n hX dM_open_34 1 rfl ?_
      refine g_ald (v := (S 6 g1)) hX 7 rfl g1 (by omega) (by decide) (rfl) (rfl) dM_open_35 ?_
      refine g_istore_n (lv1 := [(0, .ref h), (1, .int (nI g1)), (2, .int w), (3, .int (S 6 g1))]) hX dM_open_36 (by decide) [1, 2, 3, 0] rfl ?_
      refine g_iload_n hX dM_open_37 2 rfl ?_
      refine g_if_le hX 57 dM_open_38 (by decide) (fun c_38 => ?_) (fun c_38 => ?_)
      · refine g_aload_n hX dM_open_57 0 rfl ?_
        refine g_get hX 0 rfl rfl 7 (by decide) uu_M q_591 rfl rfl dM_open_58 ?_
        refine g_iload_n hX dM_open_61 1 rfl ?_
        refine g_iload_n hX dM_open_62 2 rfl ?_
        refine g_ast (ws1 := wM Z h q (sw S 6 g1 w)) hX 7 rfl g1 (by omega) (by decide) (rfl) dM_open_63 (setM_S_6 Z h q S g1 w) ?_
        refine g_iload_n hX dM_open_64 3 rfl ?_
        exact r_iret hX hQ dM_open_65 keysM (by rw [show mf_open S (nI g1) w = ((S 6 g1), sw S 6 g1 w) from by simp [mf_open, c_5, c_20, c_38, nI_clamp (show g1 < 2 ^ 31 by omega)]]; exact MP_mk)
      · refine g_iload_n hX dM_open_41 3 rfl ?_
        refine g_if_le hX 57 dM_open_42 (by decide) (fun c_42 => ?_) (fun c_42 => ?_)
        · refine g_aload_n hX dM_open_57 0 rfl ?_
          refine g_get hX 0 rfl rfl 7 (by decide) uu_M q_591 rfl rfl dM_open_58 ?_
          refine g_iload_n hX dM_open_61 1 rfl ?_
          refine g_iload_n hX dM_open_62 2 rfl ?_
          refine g_ast (ws1 := wM Z h q (sw S 6 g1 w)) hX 7 rfl g1 (by omega) (by decide) (rfl) dM_open_63 (setM_S_6 Z h q S g1 w) ?_
          refine g_iload_n hX dM_open_64 3 rfl ?_
          exact r_iret hX hQ dM_open_65 keysM (by rw [show mf_open S (nI g1) w = ((S 6 g1), sw S 6 g1 w) from by simp [mf_open, c_5, c_20, c_38, c_42, nI_clamp (show g1 < 2 ^ 31 by omega)]]; exact MP_mk)
        · refine g_iload_n hX dM_open_45 3 rfl ?_
          refine g_iload_n hX dM_open_46 2 rfl ?_
          refine g_icmp_eq hX 57 dM_open_47 (by decide) (fun c_47 => ?_) (fun c_47 => ?_)
          · refine g_aload_n hX dM_open_57 0 rfl ?_
            refine g_get hX 0 rfl rfl 7 (by decide) uu_M q_591 rfl rfl dM_open_58 ?_
            refine g_iload_n hX dM_open_61 1 rfl ?_
            refine g_iload_n hX dM_open_62 2 rfl ?_
            refine g_ast (ws1 := wM Z h q (sw S 6 g1 w)) hX 7 rfl g1 (by omega) (by decide) (rfl) dM_open_63 (setM_S_6 Z h q S g1 w) ?_
            refine g_iload_n hX dM_open_64 3 rfl ?_
            exact r_iret hX hQ dM_open_65 keysM (by rw [show mf_open S (nI g1) w = ((S 6 g1), sw S 6 g1 w) from by simp [mf_open, c_5, c_20, c_38, c_42, c_47, nI_clamp (show g1 < 2 ^ 31 by omega)]]; exact MP_mk)
          · refine g_aload_n hX dM_open_50 0 rfl ?_
            refine g_bipush (v := (-3)) hX dM_open_51 (by decide) ?_
            refine g_callV hX (con_M_no l Z h q S (-3) 3 (by decide) (by decide)) mvM_no q_676 rfl (by decide) 0 rfl rfl rfl (Nat.le_of_ble_eq_true rfl) dM_open_53 [0, 1, 2, 3, 4, 5, 6, 7, 8, 9, 10, 11, 12, 13, 14, 15, 16, 17, 18, 19, 20, 21] rfl (subM_all Z h q S) (g_fn (ws1 := wM Z h q (nob S 3)) (st1 := [.int (-3)]) (putM_all Z h q S (nob S 3)) rfl ?_)
            exact r_iret hX hQ dM_open_56 keysM (by rw [show mf_open S (nI g1) w = ((-3), nob S 3) from by simp [mf_open, c_5, c_20, c_38, c_42, c_47, nI_clamp (show g1 < 2 ^ 31 by omega)]]; exact MP_mk)
    · refine g_aload_n hX dM_open_23 0 rfl ?_
      refine g_bipush (v := (-2)) hX dM_open_24 (by decide) ?_
      refine g_callV hX (con_M_no l Z h q S (-2) 2 (by decide) (by decide)) mvM_no q_676 rfl (by decide) 0 rfl rfl rfl (Nat.le_of_ble_eq_true rfl) dM_open_26 [0, 1, 2, 3, 4, 5, 6, 7, 8, 9, 10, 11, 12, 13, 14, 15, 16, 17, 18, 19, 20, 21] rfl (subM_all Z h q S) (g_fn (ws1 := wM Z h q (nob S 2)) (st1 := [.int (-2)]) (putM_all Z h q S (nob S 2)) rfl ?_)
      exact r_iret hX hQ dM_open_29 keysM (by rw [show mf_open S (nI g1) w = ((-2), nob S 2) from by simp [mf_open, c_5, c_20, nI_clamp (show g1 < 2 ^ 31 by omega)]]; exact MP_mk)
  · refine g_aload_n hX dM_open_8 0 rfl ?_
    refine g_iconst (v := (-1)) hX dM_open_9 (by decide) ?_
    refine g_callV hX (con_M_no l Z h q S (-1) 1 (by decide) (by decide)) mvM_no q_676 rfl (by decide) 0 rfl rfl rfl (Nat.le_of_ble_eq_true rfl) dM_open_10 [0, 1, 2, 3, 4, 5, 6, 7, 8, 9, 10, 11, 12, 13, 14, 15, 16, 17, 18, 19, 20, 21] rfl (subM_all Z h q S) (g_fn (ws1 := wM Z h q (nob S 1)) (st1 := [.int (-1)]) (putM_all Z h q S (nob S 1)) rfl ?_)
    exact r_iret hX hQ dM_open_13 keysM (by rw [show mf_open S x w = ((-1), nob S 1) from by simp [mf_open, c_5]]; exact MP_mk)
set_option maxHeartbeats 4000000 in
set_option maxRecDepth 20000 in
theorem con_M_leak (l : Launch) (Z : ZZ) (h : Nat) (q : Nat → Nat) (S : St) (x v : Int32) : Con l Z yM_leak cM_leak 4 (some .int) 2 [.ref h, .int x, .int v] (wM Z h q S) (MP Z h q (mf_leak S x v)) := by
  refine Con.of (by decide) (Nat.le_of_ble_eq_true rfl) (fun X hX hQ => ?_)
  show G X Z (wM Z h q S) 0 [(0, .ref h), (1, .int x), (2, .int v)] []
  refine g_iload_n hX dM_leak_0 1 rfl ?_
  refine g_callS hX (con_M_isRoom l Z x) msM_isRoom q_777 rfl (by decide) rfl (Nat.le_of_ble_eq_true rfl) dM_leak_1 [] rfl (rfl) (g_fn (ws1 := wM Z h q S) (st1 := [.int (isRoomS x)]) (rfl) rfl ?_)
  refine g_if_ne hX 13 dM_leak_4 (by decide) (fun c_4 => ?_) (fun c_4 => ?_)
  · obtain ⟨r, hr6, rfl⟩ := isRoom_of c_4
    refine g_iload_n hX dM_leak_13 2 rfl ?_
    refine g_if_ge hX 24 dM_leak_14 (by decide) (fun c_14 => ?_) (fun c_14 => ?_)
    · refine g_iload_n hX dM_leak_24 2 rfl ?_
      refine g_bipush (v := 9) hX dM_leak_25 (by decide) ?_
      refine g_icmp_le hX 37 dM_leak_27 (by decide) (fun c_27 => ?_) (fun c_27 => ?_)
      · refine g_aload_n hX dM_leak_37 0 rfl ?_
        refine g_get hX 0 rfl rfl 1 (by decide) uu_M q_585 rfl rfl dM_leak_38 ?_
        refine g_iload_n hX dM_leak_41 1 rfl ?_
        refine g_ald (v := (S 1 r)) hX 2 rfl r (by omega) (by decide) (rfl) (rfl) dM_leak_42 ?_
        refine g_istore_n (lv1 := [(0, .ref h), (1, .int (nI r)), (2, .int v), (3, .int (S 1 r))]) hX dM_leak_43 (by decide) [1, 2, 3, 0] rfl ?_
        refine g_aload_n hX dM_leak_44 0 rfl ?_
        refine g_get hX 0 rfl rfl 1 (by decide) uu_M q_585 rfl rfl dM_leak_45 ?_
        refine g_iload_n hX dM_leak_48 1 rfl ?_
        refine g_iload_n hX dM_leak_49 2 rfl ?_
        refine g_ast (ws1 := wM Z h q (sw S 1 r v)) hX 2 rfl r (by omega) (by decide) (rfl) dM_leak_50 (setM_S_1 Z h q S r v) ?_
        refine g_iload_n hX dM_leak_51 3 rfl ?_
        exact r_iret hX hQ dM_leak_52 keysM (by rw [show mf_leak S (nI r) v = ((S 1 r), sw S 1 r v) from by simp [mf_leak, c_4, c_14, c_27, nI_clamp (show r < 2 ^ 31 by omega)]]; exact MP_mk)
      · refine g_aload_n hX dM_leak_30 0 rfl ?_
        refine g_bipush (v := (-6)) hX dM_leak_31 (by decide) ?_
        refine g_callV hX (con_M_no l Z h q S (-6) 6 (by decide) (by decide)) mvM_no q_676 rfl (by decide) 0 rfl rfl rfl (Nat.le_of_ble_eq_true rfl) dM_leak_33 [0, 1, 2, 3, 4, 5, 6, 7, 8, 9, 10, 11, 12, 13, 14, 15, 16, 17, 18, 19, 20, 21] rfl (subM_all Z h q S) (g_fn (ws1 := wM Z h q (nob S 6)) (st1 := [.int (-6)]) (putM_all Z h q S (nob S 6)) rfl ?_)
        exact r_iret hX hQ dM_leak_36 keysM (by rw [show mf_leak S (nI r) v = ((-6), nob S 6) from by simp [mf_leak, c_4, c_14, c_27, nI_clamp (show r < 2 ^ 31 by omega)]]; exact MP_mk)
    · refine g_aload_n hX dM_leak_17 0 rfl ?_
      refine g_bipush (v := (-4)) hX dM_leak_18 (by decide) ?_
      refine g_callV hX (con_M_no l Z h q S (-4) 4 (by decide) (by decide)) mvM_no q_676 rfl (by decide) 0 rfl rfl rfl (Nat.le_of_ble_eq_true rfl) dM_leak_20 [0, 1, 2, 3, 4, 5, 6, 7, 8, 9, 10, 11, 12, 13, 14, 15, 16, 17, 18, 19, 20, 21] rfl (subM_all Z h q S) (g_fn (ws1 := wM Z h q (nob S 4)) (st1 := [.int (-4)]) (putM_all Z h q S (nob S 4)) rfl ?_)
      exact r_iret hX hQ dM_leak_23 keysM (by rw [show mf_leak S (nI r) v = ((-4), nob S 4) from by simp [mf_leak, c_4, c_14, nI_clamp (show r < 2 ^ 31 by omega)]]; exact MP_mk)
  · refine g_aload_n hX dM_leak_7 0 rfl ?_
    refine g_iconst (v := (-1)) hX dM_leak_8 (by decide) ?_
    refine g_callV hX (con_M_no l Z h q S (-1) 1 (by decide) (by decide)) mvM_no q_676 rfl (by decide) 0 rfl rfl rfl (Nat.le_of_ble_eq_true rfl) dM_leak_9 [0, 1, 2, 3, 4, 5, 6, 7, 8, 9, 10, 11, 12, 13, 14, 15, 16, 17, 18, 19, 20, 21] rfl (subM_all Z h q S) (g_fn (ws1 := wM Z h q (nob S 1)) (st1 := [.int (-1)]) (putM_all Z h q S (nob S 1)) rfl ?_)
    exact r_iret hX hQ dM_leak_12 keysM (by rw [show mf_leak S x v = ((-1), nob S 1) from by simp [mf_leak, c_4]]; exact MP_mk)
set_option maxHeartbeats 4000000 in
set_option maxRecDepth 20000 in
theorem con_M_row (l : Launch) (Z : ZZ) (h : Nat) (q : Nat → Nat) (S : St) (v : Int32) (n9 : Nat) (hN : S 12 6 = nI n9) (hN12 : n9 ≤ 12) : Con l Z yM_row cM_row 2 (some .int) 1 [.ref h, .int v] (wM Z h q S) (MP Z h q (mf_row S n9 v)) := by
  refine Con.of (by decide) (Nat.le_of_ble_eq_true rfl) (fun X hX hQ => ?_)
  show G X Z (wM Z h q S) 0 [(0, .ref h), (1, .int v)] []
  refine g_iload_n hX dM_row_0 1 rfl ?_
  refine g_if_ge hX 11 dM_row_1 (by decide) (fun c_1 => ?_) (fun c_1 => ?_)
  · refine g_iload_n hX dM_row_11 1 rfl ?_
    refine g_sipush (v := 999) hX dM_row_12 (by decide) ?_
    refine g_icmp_gt hX 27 dM_row_15 (by decide) (fun c_15 => ?_) (fun c_15 => ?_)
    · refine g_aload_n hX dM_row_27 0 rfl ?_
      refine g_bipush (v := (-6)) hX dM_row_28 (by decide) ?_
      refine g_callV hX (con_M_no l Z h q S (-6) 6 (by decide) (by decide)) mvM_no q_676 rfl (by decide) 0 rfl rfl rfl (Nat.le_of_ble_eq_true rfl) dM_row_30 [0, 1, 2, 3, 4, 5, 6, 7, 8, 9, 10, 11, 12, 13, 14, 15, 16, 17, 18, 19, 20, 21] rfl (subM_all Z h q S) (g_fn (ws1 := wM Z h q (nob S 6)) (st1 := [.int (-6)]) (putM_all Z h q S (nob S 6)) rfl ?_)
      exact r_iret hX hQ dM_row_33 keysM (by rw [show mf_row S n9 v = ((-6), nob S 6) from by simp [mf_row, c_1, c_15]]; exact MP_mk)
    · refine g_aload_n hX dM_row_18 0 rfl ?_
      refine g_get hX 0 rfl rfl 20 (by decide) uu_M q_604 rfl rfl dM_row_19 ?_
      refine g_top (y := (nI n9)) (by first | exact hN | (simp [sw]; exact hN)) ?_
      refine g_bipush (v := 12) hX dM_row_22 (by decide) ?_
      refine g_icmp_ne hX 34 dM_row_24 (by decide) (fun c_24 => ?_) (fun c_24 => ?_)
      · have hn12 : n9 < 12 := by
            have q : ¬ n9 = 12 := fun q => c_24 (by rw [q]; rfl)
            omega
        refine g_aload_n hX dM_row_34 0 rfl ?_
        refine g_get hX 0 rfl rfl 21 (by decide) uu_M q_605 rfl rfl dM_row_35 ?_
        refine g_aload_n hX dM_row_38 0 rfl ?_
        refine g_dup hX dM_row_39 rfl ?_
        refine g_get hX 0 rfl rfl 20 (by decide) uu_M q_604 rfl rfl dM_row_40 ?_
        refine g_top (y := (nI n9)) (by first | exact hN | (simp [sw]; exact hN)) ?_
        refine g_dup_x1 hX dM_row_43 rfl rfl ?_
        refine g_iconst (v := 1) hX dM_row_44 (by decide) ?_
        refine g_iadd (z := (nI (n9 + 1))) hX dM_row_45 (nI_add n9 1) ?_
        refine g_put (ws1 := wM Z h q (sw S 12 6 (nI (n9 + 1)))) hX 0 rfl rfl 20 (by decide) uu_M tyF_M tyF_M_ok nmF_M q_604 rfl rfl rfl rfl rfl (Nat.le_of_ble_eq_true rfl) dM_row_46 (fldM_S_12_6 Z h q S (nI (n9 + 1))) ?_
        refine g_iload_n hX dM_row_49 1 rfl ?_
        refine g_ast (ws1 := wM Z h q (sw (sw S 12 6 (nI (n9 + 1))) 15 n9 v)) hX 15 rfl n9 (by omega) (by decide) (rfl) dM_row_50 (setM_S_15 Z h q (sw S 12 6 (nI (n9 + 1))) n9 v) ?_
        refine g_aload_n hX dM_row_51 0 rfl ?_
        refine g_get hX 0 rfl rfl 20 (by decide) uu_M q_604 rfl rfl dM_row_52 ?_
        refine g_top (y := (nI (n9 + 1))) (by simp [sw_ne, sw_eq, upd]) ?_
        exact r_iret hX hQ dM_row_55 keysM (by rw [show mf_row S n9 v = ((nI (n9 + 1)), sw (sw S 12 6 (nI (n9 + 1))) 15 n9 v) from by simp [mf_row, c_1, c_15, c_24]]; exact MP_mk)
      · refine g_aload_n hX dM_row_27 0 rfl ?_
        refine g_bipush (v := (-6)) hX dM_row_28 (by decide) ?_
        refine g_callV hX (con_M_no l Z h q S (-6) 6 (by decide) (by decide)) mvM_no q_676 rfl (by decide) 0 rfl rfl rfl (Nat.le_of_ble_eq_true rfl) dM_row_30 [0, 1, 2, 3, 4, 5, 6, 7, 8, 9, 10, 11, 12, 13, 14, 15, 16, 17, 18, 19, 20, 21] rfl (subM_all Z h q S) (g_fn (ws1 := wM Z h q (nob S 6)) (st1 := [.int (-6)]) (putM_all Z h q S (nob S 6)) rfl ?_)
        exact r_iret hX hQ dM_row_33 keysM (by rw [show mf_row S n9 v = ((-6), nob S 6) from by simp [mf_row, c_1, c_15, c_24]]; exact MP_mk)
  · refine g_aload_n hX dM_row_4 0 rfl ?_
    refine g_bipush (v := (-4)) hX dM_row_5 (by decide) ?_
    refine g_callV hX (con_M_no l Z h q S (-4) 4 (by decide) (by decide)) mvM_no q_676 rfl (by decide) 0 rfl rfl rfl (Nat.le_of_ble_eq_true rfl) dM_row_7 [0, 1, 2, 3, 4, 5, 6, 7, 8, 9, 10, 11, 12, 13, 14, 15, 16, 17, 18, 19, 20, 21] rfl (subM_all Z h q S) (g_fn (ws1 := wM Z h q (nob S 4)) (st1 := [.int (-4)]) (putM_all Z h q S (nob S 4)) rfl ?_)
    exact r_iret hX hQ dM_row_10 keysM (by rw [show mf_row S n9 v = ((-4), nob S 4) from by simp [mf_row, c_1]]; exact MP_mk)
set_option maxHeartbeats 4000000 in
set_option maxRecDepth 20000 in
theorem con_M_clear (l : Launch) (Z : ZZ) (h : Nat) (q : Nat → Nat) (S : St) : Con l Z yM_clear cM_clear 2 (some .int) 0 [.ref h] (wM Z h q S) (MP Z h q (mf_clear S)) := by
  refine Con.of (by decide) (Nat.le_of_ble_eq_true rfl) (fun X hX hQ => ?_)
  show G X Z (wM Z h q S) 0 [(0, .ref h)] []
  refine g_aload_n hX dM_clear_0 0 rfl ?_
  refine g_get hX 0 rfl rfl 20 (by decide) uu_M q_604 rfl rfl dM_clear_1 ?_
  refine g_istore_n (lv1 := [(0, .ref h), (1, .int (S 12 6))]) hX dM_clear_4 (by decide) [1, 0] rfl ?_
  refine g_aload_n hX dM_clear_5 0 rfl ?_
  refine g_iconst (v := 0) hX dM_clear_6 (by decide) ?_
  refine g_put (ws1 := wM Z h q (sw S 12 6 0)) hX 0 rfl rfl 20 (by decide) uu_M tyF_M tyF_M_ok nmF_M q_604 rfl rfl rfl rfl rfl (Nat.le_of_ble_eq_true rfl) dM_clear_7 (fldM_S_12_6 Z h q S 0) ?_
  refine g_iload_n hX dM_clear_10 1 rfl ?_
  exact r_iret hX hQ dM_clear_11 keysM (by rw [show mf_clear S = ((S 12 6), sw S 12 6 0) from by simp [mf_clear]]; exact MP_mk)
set_option maxHeartbeats 4000000 in
set_option maxRecDepth 20000 in
theorem con_M_image (l : Launch) (Z : ZZ) (h : Nat) (q : Nat → Nat) (S : St) : Con l Z yM_image cM_image 1 (some .int) 1 [.ref h] (wM Z h q S) (MP Z h q (mf_image S)) := by
  refine Con.of (by decide) (Nat.le_of_ble_eq_true rfl) (fun X hX hQ => ?_)
  show G X Z (wM Z h q S) 0 [(0, .ref h)] []
  refine g_aload_n hX dM_image_0 0 rfl ?_
  refine g_iconst (v := 1) hX dM_image_1 (by decide) ?_
  refine g_put (ws1 := wM Z h q (sw S 12 7 1)) hX 0 rfl rfl 23 (by decide) uu_M tyF_M tyF_M_ok nmF_M q_607 rfl rfl rfl rfl rfl (Nat.le_of_ble_eq_true rfl) dM_image_2 (fldM_S_12_7 Z h q S 1) ?_
  refine g_aload_n hX dM_image_5 0 rfl ?_
  refine g_aload_n hX dM_image_6 0 rfl ?_
  refine g_get hX 0 rfl rfl 24 (by decide) uu_M q_608 rfl rfl dM_image_7 ?_
  refine g_callV hX (con_M_keep_17 l Z h q (sw S 12 7 1)) mvM_keep q_765 rfl (by decide) 0 rfl rfl rfl (Nat.le_of_ble_eq_true rfl) dM_image_10 [0, 1, 2, 3, 4, 5, 6, 7, 8, 9, 10, 11, 12, 13, 14, 15, 16, 17, 18, 19, 20, 21] rfl (subM_all Z h q (sw S 12 7 1)) (g_fn (ws1 := wM Z h q (sr (sw S 12 7 1) 17 (pk (sw S 12 7 1)))) (st1 := []) (putM_all Z h q (sw S 12 7 1) (sr (sw S 12 7 1) 17 (pk (sw S 12 7 1)))) rfl ?_)
  refine g_aload_n hX dM_image_13 0 rfl ?_
  refine g_get hX 0 rfl rfl 13 (by decide) uu_M q_597 rfl rfl dM_image_14 ?_
  exact r_iret hX hQ dM_image_17 keysM (by rw [show mf_image S = (sr (sw S 12 7 1) 17 (pk (sw S 12 7 1)) 12 2, sr (sw S 12 7 1) 17 (pk (sw S 12 7 1))) from rfl]; exact MP_mk)
set_option maxHeartbeats 4000000 in
set_option maxRecDepth 20000 in
theorem con_M_on (l : Launch) (Z : ZZ) (h : Nat) (q : Nat → Nat) (S : St) : Con l Z yM_on cM_on 1 (some .int) 1 [.ref h] (wM Z h q S) (MP Z h q (mf_on S)) := by
  refine Con.of (by decide) (Nat.le_of_ble_eq_true rfl) (fun X hX hQ => ?_)
  show G X Z (wM Z h q S) 0 [(0, .ref h)] []
  refine g_aload_n hX dM_on_0 0 rfl ?_
  refine g_get hX 0 rfl rfl 23 (by decide) uu_M q_607 rfl rfl dM_on_1 ?_
  refine g_if_ne hX 14 dM_on_4 (by decide) (fun c_4 => ?_) (fun c_4 => ?_)
  · refine g_aload_n hX dM_on_14 0 rfl ?_
    refine g_aload_n hX dM_on_15 0 rfl ?_
    refine g_get hX 0 rfl rfl 24 (by decide) uu_M q_608 rfl rfl dM_on_16 ?_
    refine g_callV hX (con_M_again_17 l Z h q S) mvM_again q_769 rfl (by decide) 0 rfl rfl rfl (Nat.le_of_ble_eq_true rfl) dM_on_19 [0, 1, 2, 3, 4, 5, 6, 7, 8, 9, 10, 11, 12, 13, 14, 15, 16, 17, 18, 19, 20, 21] rfl (subM_all Z h q S) (g_fn (ws1 := wM Z h q (up S (S 17))) (st1 := []) (putM_all Z h q S (up S (S 17))) rfl ?_)
    refine g_aload_n hX dM_on_22 0 rfl ?_
    refine g_get hX 0 rfl rfl 13 (by decide) uu_M q_597 rfl rfl dM_on_23 ?_
    exact r_iret hX hQ dM_on_26 keysM (by rw [show mf_on S = (((up S (S 17)) 12 2), up S (S 17)) from by simp [mf_on, c_4]]; exact MP_mk)
  · refine g_aload_n hX dM_on_7 0 rfl ?_
    refine g_bipush (v := (-3)) hX dM_on_8 (by decide) ?_
    refine g_callV hX (con_M_no l Z h q S (-3) 3 (by decide) (by decide)) mvM_no q_676 rfl (by decide) 0 rfl rfl rfl (Nat.le_of_ble_eq_true rfl) dM_on_10 [0, 1, 2, 3, 4, 5, 6, 7, 8, 9, 10, 11, 12, 13, 14, 15, 16, 17, 18, 19, 20, 21] rfl (subM_all Z h q S) (g_fn (ws1 := wM Z h q (nob S 3)) (st1 := [.int (-3)]) (putM_all Z h q S (nob S 3)) rfl ?_)
    exact r_iret hX hQ dM_on_13 keysM (by rw [show mf_on S = ((-3), nob S 3) from by simp [mf_on, c_4]]; exact MP_mk)
set_option maxHeartbeats 4000000 in
set_option maxRecDepth 20000 in
theorem con_M_minutes (l : Launch) (Z : ZZ) (h : Nat) (q : Nat → Nat) (S : St) (x : Int32) (nP : Nat) (hP : S 12 1 = nI nP) (hP5 : nP ≤ 5) (hV : Vd S nP) : Con l Z yM_minutes cM_minutes 2 (some .int) 4 [.ref h, .int x] (wM Z h q S) (MP Z h q (mf_minutes S nP x)) := by
  refine Con.of (by decide) (Nat.le_of_ble_eq_true rfl) (fun X hX hQ => ?_)
  show G X Z (wM Z h q S) 0 [(0, .ref h), (1, .int x)] []
  refine g_iload_n hX dM_minutes_0 1 rfl ?_
  refine g_iconst (v := 1) hX dM_minutes_1 (by decide) ?_
  refine g_icmp_ge hX 12 dM_minutes_2 (by decide) (fun c_2 => ?_) (fun c_2 => ?_)
  · refine g_iload_n hX dM_minutes_12 1 rfl ?_
    refine g_bipush (v := 99) hX dM_minutes_13 (by decide) ?_
    refine g_icmp_gt hX 30 dM_minutes_15 (by decide) (fun c_15 => ?_) (fun c_15 => ?_)
    · refine g_aload_n hX dM_minutes_30 0 rfl ?_
      refine g_bipush (v := (-6)) hX dM_minutes_31 (by decide) ?_
      refine g_callV hX (con_M_no l Z h q S (-6) 6 (by decide) (by decide)) mvM_no q_676 rfl (by decide) 0 rfl rfl rfl (Nat.le_of_ble_eq_true rfl) dM_minutes_33 [0, 1, 2, 3, 4, 5, 6, 7, 8, 9, 10, 11, 12, 13, 14, 15, 16, 17, 18, 19, 20, 21] rfl (subM_all Z h q S) (g_fn (ws1 := wM Z h q (nob S 6)) (st1 := [.int (-6)]) (putM_all Z h q S (nob S 6)) rfl ?_)
      refine g_goto hX 44 dM_minutes_36 (by decide) ?_
      exact r_iret hX hQ dM_minutes_44 keysM (by rw [show mf_minutes S nP x = ((-6), nob S 6) from by simp [mf_minutes, c_2, c_15]]; exact MP_mk)
    · obtain ⟨n1, hn10, hn19, rfl⟩ := mins_of (a := 1) (b := 99) (na := 1) (nb := 99) rfl rfl (by decide) (by decide) c_2 c_15
      refine g_aload_n hX dM_minutes_18 0 rfl ?_
      refine g_get hX 0 rfl rfl 13 (by decide) uu_M q_597 rfl rfl dM_minutes_19 ?_
      refine g_iload_n hX dM_minutes_22 1 rfl ?_
      refine g_iadd (z := ((S 12 2) + (nI n1))) hX dM_minutes_23 (rfl) ?_
      refine g_sipush (v := 999) hX dM_minutes_24 (by decide) ?_
      refine g_icmp_le hX 39 dM_minutes_27 (by decide) (fun c_27 => ?_) (fun c_27 => ?_)
      · refine g_aload_n hX dM_minutes_39 0 rfl ?_
        refine g_iload_n hX dM_minutes_40 1 rfl ?_
        refine g_callV hX (con_M_goBy l Z h q S n1 (by omega) nP hP hP5 hV) mvM_goBy q_824 rfl (by decide) 0 rfl rfl rfl (Nat.le_of_ble_eq_true rfl) dM_minutes_41 [0, 1, 2, 3, 4, 5, 6, 7, 8, 9, 10, 11, 12, 13, 14, 15, 16, 17, 18, 19, 20, 21] rfl (subM_all Z h q S) (g_fn (ws1 := wM Z h q (liveN nP S n1)) (st1 := [.int (liveN nP S n1 12 3 - S 12 3)]) (putM_all Z h q S (liveN nP S n1)) rfl ?_)
        exact r_iret hX hQ dM_minutes_44 keysM (by rw [show mf_minutes S nP (nI n1) = ((liveN nP S n1 12 3 - S 12 3), liveN nP S n1) from by simp [mf_minutes, c_2, c_15, c_27, nI_clamp (show n1 < 2 ^ 31 by omega)]]; exact MP_mk)
      · refine g_aload_n hX dM_minutes_30 0 rfl ?_
        refine g_bipush (v := (-6)) hX dM_minutes_31 (by decide) ?_
        refine g_callV hX (con_M_no l Z h q S (-6) 6 (by decide) (by decide)) mvM_no q_676 rfl (by decide) 0 rfl rfl rfl (Nat.le_of_ble_eq_true rfl) dM_minutes_33 [0, 1, 2, 3, 4, 5, 6, 7, 8, 9, 10, 11, 12, 13, 14, 15, 16, 17, 18, 19, 20, 21] rfl (subM_all Z h q S) (g_fn (ws1 := wM Z h q (nob S 6)) (st1 := [.int (-6)]) (putM_all Z h q S (nob S 6)) rfl ?_)
        refine g_goto hX 44 dM_minutes_36 (by decide) ?_
        exact r_iret hX hQ dM_minutes_44 keysM (by rw [show mf_minutes S nP (nI n1) = ((-6), nob S 6) from by simp [mf_minutes, c_2, c_15, c_27, nI_clamp (show n1 < 2 ^ 31 by omega)]]; exact MP_mk)
  · refine g_aload_n hX dM_minutes_5 0 rfl ?_
    refine g_bipush (v := (-4)) hX dM_minutes_6 (by decide) ?_
    refine g_callV hX (con_M_no l Z h q S (-4) 4 (by decide) (by decide)) mvM_no q_676 rfl (by decide) 0 rfl rfl rfl (Nat.le_of_ble_eq_true rfl) dM_minutes_8 [0, 1, 2, 3, 4, 5, 6, 7, 8, 9, 10, 11, 12, 13, 14, 15, 16, 17, 18, 19, 20, 21] rfl (subM_all Z h q S) (g_fn (ws1 := wM Z h q (nob S 4)) (st1 := [.int (-4)]) (putM_all Z h q S (nob S 4)) rfl ?_)
    exact r_iret hX hQ dM_minutes_11 keysM (by rw [show mf_minutes S nP x = ((-4), nob S 4) from by simp [mf_minutes, c_2]]; exact MP_mk)

/-! the class itself: gauges -/
/-- whether a room's air is as told behind so many minutes, were its leak that -/
def atS (Sn U : St) (nP j : Nat) (v n : Int32) : Int32 := if ¬ airBehindS Sn nP j v n = U 1 j then 0 else 1
def ruS (Sn U : St) (nP : Nat) (n : Int32) : Nat → Int32
  | 0 => 0
  | j + 1 => if ¬ atS Sn U nP j (Sn 1 j) n = 0 then ruS Sn U nP n j else ruS Sn U nP n j + 1
def wmS (Sn U : St) (nP j : Nat) (v n u : Int32) : Int32 := if Sn 1 j = v then 0 else if ¬ atS Sn U nP j v n = 0 then (if ¬ u = (if atS Sn U nP j (Sn 1 j) n = 0 then 1 else 0) then 0 else 1) else 0
def wlI (Sn U : St) (nP j : Nat) (n u k : Int32) : Nat → Int32
  | 0 => k
  | v + 1 => if wmS Sn U nP j (nI v) n u = 0 then wlI Sn U nP j n u k v else wlI Sn U nP j n u k v + 1
def wlO (Sn U : St) (nP : Nat) (n u : Int32) : Nat → Int32
  | 0 => 0
  | j + 1 => wlI Sn U nP j n u (wlO Sn U nP n u j) 10
/-- the first that would make all so: of a room, from a leak on; of the rooms from one on -/
def flI (Sn U : St) (nP j : Nat) (n u e : Int32) : Nat → Nat → Int32
  | 0, _ => e
  | r + 1, v => if wmS Sn U nP j (nI v) n u = 0 then flI Sn U nP j n u e r (v + 1) else nI (10 * j + v)
def flO (Sn U : St) (nP : Nat) (n u : Int32) : Nat → Nat → Int32
  | 0, _ => -9
  | r + 1, j => flI Sn U nP j n u (flO Sn U nP n u r (j + 1)) 10 0
def xf_gauges (Sn Sk T U : St) (nP nR : Nat) (x w : Int32) : XR := if 0 ≤ x then (if x ≤ 99 then (if w < 0 then (-2, Sn, Sk, T, rfU U 2) else if w ≤ 2 then (if nI nR = 6 then (if w = 0 then (wlO Sn U nP x (ruS Sn U nP x 6) 6, Sn, Sk, T, U) else if w = 1 then (flO Sn U nP x (ruS Sn U nP x 6) 6 0, Sn, Sk, T, U) else if ¬ ruS Sn U nP x 6 = 0 then (0, Sn, Sk, T, U) else (1, Sn, Sk, T, U)) else (-3, Sn, Sk, T, rfU U 3)) else (-2, Sn, Sk, T, rfU U 2)) else (-6, Sn, Sk, T, rfU U 6)) else (-4, Sn, Sk, T, rfU U 4)
set_option maxHeartbeats 4000000 in
set_option maxRecDepth 20000 in
theorem con_X_isAsTold (l : Launch) (Z : ZZ) (a : Nat → Nat → Nat) (Sn Sm Sk T L U : St) (v n : Int32) (j0 : Nat) (hj0 : j0 < 6) (nP : Nat) (hP : Sn 12 1 = nI nP) (hP5 : nP ≤ 5) : Con l Z yX_isAsTold cX_isAsTold 4 (some .boolean) 4 [.ref (a 0 0), .int (nI j0), .int v, .int n] (wX Z a Sn Sm Sk T L U) (Fn (some (.int (atS Sn U nP j0 v n))) (wX Z a Sn Sm Sk T L U)) := by
  refine Con.of (by decide) (Nat.le_of_ble_eq_true rfl) (fun X hX hQ => ?_)
  show G X Z (wX Z a Sn Sm Sk T L U) 0 [(0, .ref (a 0 0)), (1, .int (nI j0)), (2, .int v), (3, .int n)] []
  refine g_iload_n hX dX_isAsTold_0 1 rfl ?_
  refine g_callS hX (con_X_isRoom l Z (nI j0)) msX_isRoom q_318 rfl (by decide) rfl (Nat.le_of_ble_eq_true rfl) dX_isAsTold_1 [] rfl (rfl) (g_fn (ws1 := wX Z a Sn Sm Sk T L U) (st1 := [.int (isRoomS (nI j0))]) (rfl) rfl ?_)
  refine g_if_eq hX 30 dX_isAsTold_4 (by decide) (fun c_4 => absurd c_4 (by rw [isRoom_yes hj0]; decide)) (fun c_4 => ?_)
  refine g_aload_n hX dX_isAsTold_7 0 rfl ?_
  refine g_get hX 0 rfl rfl 0 (by decide) uu_X q_131 rfl rfl dX_isAsTold_8 ?_
  refine g_iload_n hX dX_isAsTold_11 1 rfl ?_
  refine g_iload_n hX dX_isAsTold_12 2 rfl ?_
  refine g_iload_n hX dX_isAsTold_13 3 rfl ?_
  refine g_callV hX (con_B_airBehind l Z (a 1 0) (fun k => a 1 (k + 1)) Sn v n j0 hj0 nP hP hP5) mvB_airBehind q_392 rfl (by decide) 3 rfl rfl rfl (Nat.le_of_ble_eq_true rfl) dX_isAsTold_14 [3, 4, 5, 6, 7, 8, 9, 10, 11, 12, 13, 14, 15] rfl (subX_1 Z a Sn Sm Sk T L U) (g_fn (ws1 := wX Z a Sn Sm Sk T L U) (st1 := [.int (airBehindS Sn nP j0 v n)]) (putX_1 Z a Sn Sm Sk T L U Sn) rfl ?_)
  refine g_aload_n hX dX_isAsTold_17 0 rfl ?_
  refine g_get hX 0 rfl rfl 6 (by decide) uu_X q_137 rfl rfl dX_isAsTold_18 ?_
  refine g_iload_n hX dX_isAsTold_21 1 rfl ?_
  refine g_ald (v := (U 1 j0)) hX 1 rfl j0 (by omega) (by decide) (rfl) (rfl) dX_isAsTold_22 ?_
  refine g_icmp_ne hX 30 dX_isAsTold_23 (by decide) (fun c_23 => ?_) (fun c_23 => ?_)
  · refine g_iconst (v := 0) hX dX_isAsTold_30 (by decide) ?_
    exact r_zret hX hQ (rfl) dX_isAsTold_31 rfl (⟨by simp [atS, c_4, c_23], rfl⟩)
  · refine g_iconst (v := 1) hX dX_isAsTold_26 (by decide) ?_
    refine g_goto hX 31 dX_isAsTold_27 (by decide) ?_
    exact r_zret hX hQ (rfl) dX_isAsTold_31 rfl (⟨by simp [atS, c_4, c_23], rfl⟩)
set_option maxHeartbeats 4000000 in
set_option maxRecDepth 20000 in
theorem con_X_roomsUnlikeTold (l : Launch) (Z : ZZ) (a : Nat → Nat → Nat) (Sn Sm Sk T L U : St) (n : Int32) (nP : Nat) (hP : Sn 12 1 = nI nP) (hP5 : nP ≤ 5) : Con l Z yX_roomsUnlikeTold cX_roomsUnlikeTold 4 (some .int) 5 [.ref (a 0 0), .int n] (wX Z a Sn Sm Sk T L U) (Fn (some (.int (ruS Sn U nP n 6))) (wX Z a Sn Sm Sk T L U)) := by
  refine Con.of (by decide) (Nat.le_of_ble_eq_true rfl) (fun X hX hQ => ?_)
  show G X Z (wX Z a Sn Sm Sk T L U) 0 [(0, .ref (a 0 0)), (1, .int n)] []
  refine g_iconst (v := 0) hX dX_roomsUnlikeTold_0 (by decide) ?_
  refine g_istore_n (lv1 := [(0, .ref (a 0 0)), (1, .int n), (2, .int 0)]) hX dX_roomsUnlikeTold_1 (by decide) [1, 2, 0] rfl ?_
  refine g_iconst (v := 0) hX dX_roomsUnlikeTold_2 (by decide) ?_
  refine g_istore_n (lv1 := [(0, .ref (a 0 0)), (1, .int n), (2, .int 0), (3, .int 0)]) hX dX_roomsUnlikeTold_3 (by decide) [1, 2, 3, 0] rfl ?_
  have hL_4 : ∀ j1, j1 ≤ 6 → G X Z (wX Z a Sn Sm Sk T L U) 4 [(0, .ref (a 0 0)), (1, .int n), (2, .int (ruS Sn U nP n j1)), (3, .int (nI j1))] [] := by
    refine loopUp _ 6 ?_ (fun j1 hi_j1 ih_j1 => ?_)
    · skip
      refine g_iload_n hX dX_roomsUnlikeTold_4 3 rfl ?_
      refine g_bipush (v := 6) hX dX_roomsUnlikeTold_5 (by decide) ?_
      refine g_icmp_ge hX 37 dX_roomsUnlikeTold_7 (by decide) (fun c_7 => ?_) (fun c_7 => absurd (nI_le (a := 6) (b := 6) (Nat.le_refl _) (by omega)) c_7)
      refine g_iload_n hX dX_roomsUnlikeTold_37 2 rfl ?_
      exact r_iret hX hQ dX_roomsUnlikeTold_38 rfl (⟨rfl, rfl⟩)
    · skip
      refine g_iload_n hX dX_roomsUnlikeTold_4 3 rfl ?_
      refine g_bipush (v := 6) hX dX_roomsUnlikeTold_5 (by decide) ?_
      refine g_icmp_ge hX 37 dX_roomsUnlikeTold_7 (by decide) (fun c_7 => absurd c_7 (nI_ge (a := j1) (b := 6) hi_j1 (by omega))) (fun c_7 => ?_)
      refine g_aload_n hX dX_roomsUnlikeTold_10 0 rfl ?_
      refine g_iload_n hX dX_roomsUnlikeTold_11 3 rfl ?_
      refine g_aload_n hX dX_roomsUnlikeTold_12 0 rfl ?_
      refine g_get hX 0 rfl rfl 0 (by decide) uu_X q_131 rfl rfl dX_roomsUnlikeTold_13 ?_
      refine g_get hX 3 rfl rfl 1 (by decide) uu_B q_35 rfl rfl dX_roomsUnlikeTold_16 ?_
      refine g_iload_n hX dX_roomsUnlikeTold_19 3 rfl ?_
      refine g_ald (v := (Sn 1 j1)) hX 5 rfl j1 (by omega) (by decide) (rfl) (rfl) dX_roomsUnlikeTold_20 ?_
      refine g_iload_n hX dX_roomsUnlikeTold_21 1 rfl ?_
      refine g_callV hX (con_X_isAsTold l Z a Sn Sm Sk T L U (Sn 1 j1) n j1 (by omega) nP hP hP5) mvX_isAsTold q_518 rfl (by decide) 0 rfl rfl rfl (Nat.le_of_ble_eq_true rfl) dX_roomsUnlikeTold_22 [0, 1, 2, 3, 4, 5, 6, 7, 8, 9, 10, 11, 12, 13, 14, 15, 16, 17, 18, 19, 20, 21, 22, 23, 24, 25, 26, 27, 28, 29, 30, 31, 32, 33, 34, 35, 36, 37, 38, 39, 40, 41, 42, 43, 44, 45, 46, 47, 48, 49, 50, 51, 52, 53] rfl (subX_all Z a Sn Sm Sk T L U) (g_fn (ws1 := wX Z a Sn Sm Sk T L U) (st1 := [.int (atS Sn U nP j1 (Sn 1 j1) n)]) (putX_all Z a Sn Sm Sk T L U Sn Sm Sk T L U) rfl ?_)
      refine g_if_ne hX 31 dX_roomsUnlikeTold_25 (by decide) (fun c_25 => ?_) (fun c_25 => ?_)
      · refine g_iinc (v := (nI (j1 + 1))) (lv1 := [(0, .ref (a 0 0)), (1, .int n), (2, .int (ruS Sn U nP n j1)), (3, .int (nI (j1 + 1)))]) hX dX_roomsUnlikeTold_31 3 rfl (inc_nat _) (by decide) [1, 2, 3, 0] rfl ?_
        refine g_goto hX 4 dX_roomsUnlikeTold_34 (by decide) ?_
        have e_2 : (ruS Sn U nP n j1) = (ruS Sn U nP n (j1 + 1)) := by simp [ruS, c_7, c_25]
        exact g_eq (rfl) (by rw [e_2]) rfl ih_j1
      · refine g_iinc (v := ((ruS Sn U nP n j1) + 1)) (lv1 := [(0, .ref (a 0 0)), (1, .int n), (2, .int ((ruS Sn U nP n j1) + 1)), (3, .int (nI j1))]) hX dX_roomsUnlikeTold_28 2 rfl (inc_raw _) (by decide) [1, 2, 0, 3] rfl ?_
        refine g_iinc (v := (nI (j1 + 1))) (lv1 := [(0, .ref (a 0 0)), (1, .int n), (2, .int ((ruS Sn U nP n j1) + 1)), (3, .int (nI (j1 + 1)))]) hX dX_roomsUnlikeTold_31 3 rfl (inc_nat _) (by decide) [1, 2, 3, 0] rfl ?_
        refine g_goto hX 4 dX_roomsUnlikeTold_34 (by decide) ?_
        have e_2 : ((ruS Sn U nP n j1) + 1) = (ruS Sn U nP n (j1 + 1)) := by simp [ruS, c_7, c_25]
        exact g_eq (rfl) (by rw [e_2]) rfl ih_j1
  exact hL_4 0 (Nat.zero_le _)
set_option maxHeartbeats 4000000 in
set_option maxRecDepth 20000 in
theorem con_X_wouldMakeAllSo (l : Launch) (Z : ZZ) (a : Nat → Nat → Nat) (Sn Sm Sk T L U : St) (v n u : Int32) (j0 : Nat) (hj0 : j0 < 6) (nP : Nat) (hP : Sn 12 1 = nI nP) (hP5 : nP ≤ 5) : Con l Z yX_wouldMakeAllSo cX_wouldMakeAllSo 6 (some .boolean) 5 [.ref (a 0 0), .int (nI j0), .int v, .int n, .int u] (wX Z a Sn Sm Sk T L U) (Fn (some (.int (wmS Sn U nP j0 v n u))) (wX Z a Sn Sm Sk T L U)) := by
  refine Con.of (by decide) (Nat.le_of_ble_eq_true rfl) (fun X hX hQ => ?_)
  show G X Z (wX Z a Sn Sm Sk T L U) 0 [(0, .ref (a 0 0)), (1, .int (nI j0)), (2, .int v), (3, .int n), (4, .int u)] []
  refine g_iload_n hX dX_wouldMakeAllSo_0 1 rfl ?_
  refine g_callS hX (con_X_isRoom l Z (nI j0)) msX_isRoom q_318 rfl (by decide) rfl (Nat.le_of_ble_eq_true rfl) dX_wouldMakeAllSo_1 [] rfl (rfl) (g_fn (ws1 := wX Z a Sn Sm Sk T L U) (st1 := [.int (isRoomS (nI j0))]) (rfl) rfl ?_)
  refine g_if_eq hX 30 dX_wouldMakeAllSo_4 (by decide) (fun c_4 => absurd c_4 (by rw [isRoom_yes hj0]; decide)) (fun c_4 => ?_)
  refine g_aload_n hX dX_wouldMakeAllSo_7 0 rfl ?_
  refine g_get hX 0 rfl rfl 0 (by decide) uu_X q_131 rfl rfl dX_wouldMakeAllSo_8 ?_
  refine g_get hX 3 rfl rfl 1 (by decide) uu_B q_35 rfl rfl dX_wouldMakeAllSo_11 ?_
  refine g_iload_n hX dX_wouldMakeAllSo_14 1 rfl ?_
  refine g_ald (v := (Sn 1 j0)) hX 5 rfl j0 (by omega) (by decide) (rfl) (rfl) dX_wouldMakeAllSo_15 ?_
  refine g_iload_n hX dX_wouldMakeAllSo_16 2 rfl ?_
  refine g_icmp_eq hX 30 dX_wouldMakeAllSo_17 (by decide) (fun c_17 => ?_) (fun c_17 => ?_)
  · refine g_iconst (v := 0) hX dX_wouldMakeAllSo_30 (by decide) ?_
    exact r_zret hX hQ (rfl) dX_wouldMakeAllSo_31 rfl (⟨by simp [wmS, c_4, c_17], rfl⟩)
  · refine g_aload_n hX dX_wouldMakeAllSo_20 0 rfl ?_
    refine g_iload_n hX dX_wouldMakeAllSo_21 1 rfl ?_
    refine g_iload_n hX dX_wouldMakeAllSo_22 2 rfl ?_
    refine g_iload_n hX dX_wouldMakeAllSo_23 3 rfl ?_
    refine g_callV hX (con_X_isAsTold l Z a Sn Sm Sk T L U v n j0 (by omega) nP hP hP5) mvX_isAsTold q_518 rfl (by decide) 0 rfl rfl rfl (Nat.le_of_ble_eq_true rfl) dX_wouldMakeAllSo_24 [0, 1, 2, 3, 4, 5, 6, 7, 8, 9, 10, 11, 12, 13, 14, 15, 16, 17, 18, 19, 20, 21, 22, 23, 24, 25, 26, 27, 28, 29, 30, 31, 32, 33, 34, 35, 36, 37, 38, 39, 40, 41, 42, 43, 44, 45, 46, 47, 48, 49, 50, 51, 52, 53] rfl (subX_all Z a Sn Sm Sk T L U) (g_fn (ws1 := wX Z a Sn Sm Sk T L U) (st1 := [.int (atS Sn U nP j0 v n)]) (putX_all Z a Sn Sm Sk T L U Sn Sm Sk T L U) rfl ?_)
    refine g_if_ne hX 32 dX_wouldMakeAllSo_27 (by decide) (fun c_27 => ?_) (fun c_27 => ?_)
    · refine g_aload_n hX dX_wouldMakeAllSo_32 0 rfl ?_
      refine g_iload_n hX dX_wouldMakeAllSo_33 1 rfl ?_
      refine g_aload_n hX dX_wouldMakeAllSo_34 0 rfl ?_
      refine g_get hX 0 rfl rfl 0 (by decide) uu_X q_131 rfl rfl dX_wouldMakeAllSo_35 ?_
      refine g_get hX 3 rfl rfl 1 (by decide) uu_B q_35 rfl rfl dX_wouldMakeAllSo_38 ?_
      refine g_iload_n hX dX_wouldMakeAllSo_41 1 rfl ?_
      refine g_ald (v := (Sn 1 j0)) hX 5 rfl j0 (by omega) (by decide) (rfl) (rfl) dX_wouldMakeAllSo_42 ?_
      refine g_iload_n hX dX_wouldMakeAllSo_43 3 rfl ?_
      refine g_callV hX (con_X_isAsTold l Z a Sn Sm Sk T L U (Sn 1 j0) n j0 (by omega) nP hP hP5) mvX_isAsTold q_518 rfl (by decide) 0 rfl rfl rfl (Nat.le_of_ble_eq_true rfl) dX_wouldMakeAllSo_44 [0, 1, 2, 3, 4, 5, 6, 7, 8, 9, 10, 11, 12, 13, 14, 15, 16, 17, 18, 19, 20, 21, 22, 23, 24, 25, 26, 27, 28, 29, 30, 31, 32, 33, 34, 35, 36, 37, 38, 39, 40, 41, 42, 43, 44, 45, 46, 47, 48, 49, 50, 51, 52, 53] rfl (subX_all Z a Sn Sm Sk T L U) (g_fn (ws1 := wX Z a Sn Sm Sk T L U) (st1 := [.int (atS Sn U nP j0 (Sn 1 j0) n)]) (putX_all Z a Sn Sm Sk T L U Sn Sm Sk T L U) rfl ?_)
      have hJ_55 : G X Z (wX Z a Sn Sm Sk T L U) 55 [(0, .ref (a 0 0)), (1, .int (nI j0)), (2, .int v), (3, .int n), (4, .int u)] [.int (if atS Sn U nP j0 (Sn 1 j0) n = 0 then 1 else 0)] := by
        refine g_istore (lv1 := [(0, .ref (a 0 0)), (1, .int (nI j0)), (2, .int v), (3, .int n), (4, .int u), (5, .int (if atS Sn U nP j0 (Sn 1 j0) n = 0 then 1 else 0))]) hX dX_wouldMakeAllSo_55 (by decide) [1, 2, 3, 4, 5, 0] rfl ?_
        refine g_iload hX dX_wouldMakeAllSo_57 4 rfl ?_
        refine g_iload hX dX_wouldMakeAllSo_59 5 rfl ?_
        refine g_icmp_ne hX 68 dX_wouldMakeAllSo_61 (by decide) (fun c_61 => ?_) (fun c_61 => ?_)
        · refine g_iconst (v := 0) hX dX_wouldMakeAllSo_68 (by decide) ?_
          exact r_zret hX hQ (rfl) dX_wouldMakeAllSo_69 rfl (⟨by simp [wmS, c_4, c_17, c_27, c_61], rfl⟩)
        · refine g_iconst (v := 1) hX dX_wouldMakeAllSo_64 (by decide) ?_
          refine g_goto hX 69 dX_wouldMakeAllSo_65 (by decide) ?_
          exact r_zret hX hQ (rfl) dX_wouldMakeAllSo_69 rfl (⟨by simp [wmS, c_4, c_17, c_27, c_61], rfl⟩)
      refine g_if_eq hX 54 dX_wouldMakeAllSo_47 (by decide) (fun c_47 => ?_) (fun c_47 => ?_)
      · refine g_iconst (v := 1) hX dX_wouldMakeAllSo_54 (by decide) ?_
        refine g_top (y := (if atS Sn U nP j0 (Sn 1 j0) n = 0 then 1 else 0)) (by simp [*]) ?_
        exact hJ_55
      · refine g_iconst (v := 0) hX dX_wouldMakeAllSo_50 (by decide) ?_
        refine g_goto hX 55 dX_wouldMakeAllSo_51 (by decide) ?_
        refine g_top (y := (if atS Sn U nP j0 (Sn 1 j0) n = 0 then 1 else 0)) (by simp [*]) ?_
        exact hJ_55
    · refine g_iconst (v := 0) hX dX_wouldMakeAllSo_30 (by decide) ?_
      exact r_zret hX hQ (rfl) dX_wouldMakeAllSo_31 rfl (⟨by simp [wmS, c_4, c_17, c_27], rfl⟩)
set_option maxHeartbeats 4000000 in
set_option maxRecDepth 20000 in
theorem con_X_waysToLeak (l : Launch) (Z : ZZ) (a : Nat → Nat → Nat) (Sn Sm Sk T L U : St) (n : Int32) (nP : Nat) (hP : Sn 12 1 = nI nP) (hP5 : nP ≤ 5) : Con l Z yX_waysToLeak cX_waysToLeak 6 (some .int) 6 [.ref (a 0 0), .int n] (wX Z a Sn Sm Sk T L U) (Fn (some (.int (wlO Sn U nP n (ruS Sn U nP n 6) 6))) (wX Z a Sn Sm Sk T L U)) := by
  refine Con.of (by decide) (Nat.le_of_ble_eq_true rfl) (fun X hX hQ => ?_)
  show G X Z (wX Z a Sn Sm Sk T L U) 0 [(0, .ref (a 0 0)), (1, .int n)] []
  refine g_aload_n hX dX_waysToLeak_0 0 rfl ?_
  refine g_iload_n hX dX_waysToLeak_1 1 rfl ?_
  refine g_callV hX (con_X_roomsUnlikeTold l Z a Sn Sm Sk T L U n nP hP hP5) mvX_roomsUnlikeTold q_514 rfl (by decide) 0 rfl rfl rfl (Nat.le_of_ble_eq_true rfl) dX_waysToLeak_2 [0, 1, 2, 3, 4, 5, 6, 7, 8, 9, 10, 11, 12, 13, 14, 15, 16, 17, 18, 19, 20, 21, 22, 23, 24, 25, 26, 27, 28, 29, 30, 31, 32, 33, 34, 35, 36, 37, 38, 39, 40, 41, 42, 43, 44, 45, 46, 47, 48, 49, 50, 51, 52, 53] rfl (subX_all Z a Sn Sm Sk T L U) (g_fn (ws1 := wX Z a Sn Sm Sk T L U) (st1 := [.int (ruS Sn U nP n 6)]) (putX_all Z a Sn Sm Sk T L U Sn Sm Sk T L U) rfl ?_)
  refine g_istore_n (lv1 := [(0, .ref (a 0 0)), (1, .int n), (2, .int (ruS Sn U nP n 6))]) hX dX_waysToLeak_5 (by decide) [1, 2, 0] rfl ?_
  refine g_iconst (v := 0) hX dX_waysToLeak_6 (by decide) ?_
  refine g_istore_n (lv1 := [(0, .ref (a 0 0)), (1, .int n), (2, .int (ruS Sn U nP n 6)), (3, .int 0)]) hX dX_waysToLeak_7 (by decide) [1, 2, 3, 0] rfl ?_
  refine g_iconst (v := 0) hX dX_waysToLeak_8 (by decide) ?_
  refine g_istore (lv1 := [(0, .ref (a 0 0)), (1, .int n), (2, .int (ruS Sn U nP n 6)), (3, .int 0), (4, .int 0)]) hX dX_waysToLeak_9 (by decide) [1, 2, 3, 4, 0] rfl ?_
  have hL_11 : ∀ j1, j1 ≤ 6 → G X Z (wX Z a Sn Sm Sk T L U) 11 [(0, .ref (a 0 0)), (1, .int n), (2, .int (ruS Sn U nP n 6)), (3, .int (wlO Sn U nP n (ruS Sn U nP n 6) j1)), (4, .int (nI j1))] [] := by
    refine loopUp _ 6 ?_ (fun j1 hi_j1 ih_j1 => ?_)
    · skip
      refine g_iload hX dX_waysToLeak_11 4 rfl ?_
      refine g_bipush (v := 6) hX dX_waysToLeak_13 (by decide) ?_
      refine g_icmp_ge hX 56 dX_waysToLeak_15 (by decide) (fun c_15 => ?_) (fun c_15 => absurd (nI_le (a := 6) (b := 6) (Nat.le_refl _) (by omega)) c_15)
      refine g_iload_n hX dX_waysToLeak_56 3 rfl ?_
      exact r_iret hX hQ dX_waysToLeak_57 rfl (⟨rfl, rfl⟩)
    · skip
      refine g_iload hX dX_waysToLeak_11 4 rfl ?_
      refine g_bipush (v := 6) hX dX_waysToLeak_13 (by decide) ?_
      refine g_icmp_ge hX 56 dX_waysToLeak_15 (by decide) (fun c_15 => absurd c_15 (nI_ge (a := j1) (b := 6) hi_j1 (by omega))) (fun c_15 => ?_)
      refine g_iconst (v := 0) hX dX_waysToLeak_18 (by decide) ?_
      refine g_istore (lv1 := [(0, .ref (a 0 0)), (1, .int n), (2, .int (ruS Sn U nP n 6)), (3, .int (wlO Sn U nP n (ruS Sn U nP n 6) j1)), (4, .int (nI j1)), (5, .int 0)]) hX dX_waysToLeak_19 (by decide) [1, 2, 3, 4, 5, 0] rfl ?_
      have hL_21 : ∀ v1, v1 ≤ 10 → ∀ (k0 : Int32), wlI Sn U nP j1 n (ruS Sn U nP n 6) (wlO Sn U nP n (ruS Sn U nP n 6) j1) v1 = k0 → G X Z (wX Z a Sn Sm Sk T L U) 21 [(0, .ref (a 0 0)), (1, .int n), (2, .int (ruS Sn U nP n 6)), (3, .int k0), (4, .int (nI j1)), (5, .int (nI v1))] [] := by
        refine loopUp _ 10 ?_ (fun v1 hi_v1 ih_v1 => ?_)
        · intro k0 hq_v1
          refine g_iload hX dX_waysToLeak_21 5 rfl ?_
          refine g_bipush (v := 9) hX dX_waysToLeak_23 (by decide) ?_
          refine g_icmp_gt hX 50 dX_waysToLeak_25 (by decide) (fun c_25 => ?_) (fun c_25 => absurd (by decide) c_25)
          refine g_iinc (v := (nI (j1 + 1))) (lv1 := [(0, .ref (a 0 0)), (1, .int n), (2, .int (ruS Sn U nP n 6)), (3, .int k0), (4, .int (nI (j1 + 1))), (5, .int (nI 10))]) hX dX_waysToLeak_50 4 rfl (inc_nat _) (by decide) [1, 2, 3, 4, 0, 5] rfl ?_
          refine g_goto hX 11 dX_waysToLeak_53 (by decide) ?_
          refine g_lv (lv1 := [(0, .ref (a 0 0)), (1, .int n), (2, .int (ruS Sn U nP n 6)), (3, .int k0), (4, .int (nI (j1 + 1)))]) [0, 1, 2, 3, 4] rfl ?_
          have e_3 : k0 = (wlO Sn U nP n (ruS Sn U nP n 6) (j1 + 1)) := by rw [← hq_v1]; rfl
          exact g_eq (rfl) (by rw [e_3]) rfl ih_j1
        · intro k0 hq_v1
          refine g_iload hX dX_waysToLeak_21 5 rfl ?_
          refine g_bipush (v := 9) hX dX_waysToLeak_23 (by decide) ?_
          refine g_icmp_gt hX 50 dX_waysToLeak_25 (by decide) (fun c_25 => absurd c_25 (nI_nlt (a := 9) (b := v1) (by omega) (by omega))) (fun c_25 => ?_)
          refine g_aload_n hX dX_waysToLeak_28 0 rfl ?_
          refine g_iload hX dX_waysToLeak_29 4 rfl ?_
          refine g_iload hX dX_waysToLeak_31 5 rfl ?_
          refine g_iload_n hX dX_waysToLeak_33 1 rfl ?_
          refine g_iload_n hX dX_waysToLeak_34 2 rfl ?_
          refine g_callV hX (con_X_wouldMakeAllSo l Z a Sn Sm Sk T L U (nI v1) n (ruS Sn U nP n 6) j1 (by omega) nP hP hP5) mvX_wouldMakeAllSo q_522 rfl (by decide) 0 rfl rfl rfl (Nat.le_of_ble_eq_true rfl) dX_waysToLeak_35 [0, 1, 2, 3, 4, 5, 6, 7, 8, 9, 10, 11, 12, 13, 14, 15, 16, 17, 18, 19, 20, 21, 22, 23, 24, 25, 26, 27, 28, 29, 30, 31, 32, 33, 34, 35, 36, 37, 38, 39, 40, 41, 42, 43, 44, 45, 46, 47, 48, 49, 50, 51, 52, 53] rfl (subX_all Z a Sn Sm Sk T L U) (g_fn (ws1 := wX Z a Sn Sm Sk T L U) (st1 := [.int (wmS Sn U nP j1 (nI v1) n (ruS Sn U nP n 6))]) (putX_all Z a Sn Sm Sk T L U Sn Sm Sk T L U) rfl ?_)
          refine g_if_eq hX 44 dX_waysToLeak_38 (by decide) (fun c_38 => ?_) (fun c_38 => ?_)
          · refine g_iinc (v := (nI (v1 + 1))) (lv1 := [(0, .ref (a 0 0)), (1, .int n), (2, .int (ruS Sn U nP n 6)), (3, .int k0), (4, .int (nI j1)), (5, .int (nI (v1 + 1)))]) hX dX_waysToLeak_44 5 rfl (inc_nat _) (by decide) [1, 2, 3, 4, 5, 0] rfl ?_
            refine g_goto hX 21 dX_waysToLeak_47 (by decide) ?_
            exact ih_v1 k0 (by rw [wlI, if_pos c_38, hq_v1])
          · refine g_iinc (v := (k0 + 1)) (lv1 := [(0, .ref (a 0 0)), (1, .int n), (2, .int (ruS Sn U nP n 6)), (3, .int (k0 + 1)), (4, .int (nI j1)), (5, .int (nI v1))]) hX dX_waysToLeak_41 3 rfl (inc_raw _) (by decide) [1, 2, 3, 0, 4, 5] rfl ?_
            refine g_iinc (v := (nI (v1 + 1))) (lv1 := [(0, .ref (a 0 0)), (1, .int n), (2, .int (ruS Sn U nP n 6)), (3, .int (k0 + 1)), (4, .int (nI j1)), (5, .int (nI (v1 + 1)))]) hX dX_waysToLeak_44 5 rfl (inc_nat _) (by decide) [1, 2, 3, 4, 5, 0] rfl ?_
            refine g_goto hX 21 dX_waysToLeak_47 (by decide) ?_
            exact ih_v1 (k0 + 1) (by rw [wlI, if_neg c_38, hq_v1])
      exact hL_21 0 (Nat.zero_le _) (wlO Sn U nP n (ruS Sn U nP n 6) j1) (rfl)
  exact hL_11 0 (Nat.zero_le _)
set_option maxHeartbeats 4000000 in
set_option maxRecDepth 20000 in
theorem con_X_firstToLeak (l : Launch) (Z : ZZ) (a : Nat → Nat → Nat) (Sn Sm Sk T L U : St) (n : Int32) (nP : Nat) (hP : Sn 12 1 = nI nP) (hP5 : nP ≤ 5) : Con l Z yX_firstToLeak cX_firstToLeak 5 (some .int) 6 [.ref (a 0 0), .int n] (wX Z a Sn Sm Sk T L U) (Fn (some (.int (flO Sn U nP n (ruS Sn U nP n 6) 6 0))) (wX Z a Sn Sm Sk T L U)) := by
  refine Con.of (by decide) (Nat.le_of_ble_eq_true rfl) (fun X hX hQ => ?_)
  show G X Z (wX Z a Sn Sm Sk T L U) 0 [(0, .ref (a 0 0)), (1, .int n)] []
  refine g_aload_n hX dX_firstToLeak_0 0 rfl ?_
  refine g_iload_n hX dX_firstToLeak_1 1 rfl ?_
  refine g_callV hX (con_X_roomsUnlikeTold l Z a Sn Sm Sk T L U n nP hP hP5) mvX_roomsUnlikeTold q_514 rfl (by decide) 0 rfl rfl rfl (Nat.le_of_ble_eq_true rfl) dX_firstToLeak_2 [0, 1, 2, 3, 4, 5, 6, 7, 8, 9, 10, 11, 12, 13, 14, 15, 16, 17, 18, 19, 20, 21, 22, 23, 24, 25, 26, 27, 28, 29, 30, 31, 32, 33, 34, 35, 36, 37, 38, 39, 40, 41, 42, 43, 44, 45, 46, 47, 48, 49, 50, 51, 52, 53] rfl (subX_all Z a Sn Sm Sk T L U) (g_fn (ws1 := wX Z a Sn Sm Sk T L U) (st1 := [.int (ruS Sn U nP n 6)]) (putX_all Z a Sn Sm Sk T L U Sn Sm Sk T L U) rfl ?_)
  refine g_istore_n (lv1 := [(0, .ref (a 0 0)), (1, .int n), (2, .int (ruS Sn U nP n 6))]) hX dX_firstToLeak_5 (by decide) [1, 2, 0] rfl ?_
  refine g_iconst (v := 0) hX dX_firstToLeak_6 (by decide) ?_
  refine g_istore_n (lv1 := [(0, .ref (a 0 0)), (1, .int n), (2, .int (ruS Sn U nP n 6)), (3, .int 0)]) hX dX_firstToLeak_7 (by decide) [1, 2, 3, 0] rfl ?_
  have hL_8 : ∀ j1, j1 ≤ 6 →  flO Sn U nP n (ruS Sn U nP n 6) (6 - j1) j1 = flO Sn U nP n (ruS Sn U nP n 6) 6 0 → G X Z (wX Z a Sn Sm Sk T L U) 8 [(0, .ref (a 0 0)), (1, .int n), (2, .int (ruS Sn U nP n 6)), (3, .int (nI j1))] [] := by
    refine loopUp _ 6 ?_ (fun j1 hi_j1 ih_j1 => ?_)
    · intro  hq_j1
      refine g_iload_n hX dX_firstToLeak_8 3 rfl ?_
      refine g_bipush (v := 6) hX dX_firstToLeak_9 (by decide) ?_
      refine g_icmp_ge hX 56 dX_firstToLeak_11 (by decide) (fun c_11 => ?_) (fun c_11 => absurd (nI_le (a := 6) (b := 6) (Nat.le_refl _) (by omega)) c_11)
      refine g_bipush (v := (-9)) hX dX_firstToLeak_56 (by decide) ?_
      exact r_iret hX hQ dX_firstToLeak_58 rfl (⟨by rw [← hq_j1, Nat.sub_self]; rfl, rfl⟩)
    · intro  hq_j1
      refine g_iload_n hX dX_firstToLeak_8 3 rfl ?_
      refine g_bipush (v := 6) hX dX_firstToLeak_9 (by decide) ?_
      refine g_icmp_ge hX 56 dX_firstToLeak_11 (by decide) (fun c_11 => absurd c_11 (nI_ge (a := j1) (b := 6) hi_j1 (by omega))) (fun c_11 => ?_)
      refine g_iconst (v := 0) hX dX_firstToLeak_14 (by decide) ?_
      refine g_istore (lv1 := [(0, .ref (a 0 0)), (1, .int n), (2, .int (ruS Sn U nP n 6)), (3, .int (nI j1)), (4, .int 0)]) hX dX_firstToLeak_15 (by decide) [1, 2, 3, 4, 0] rfl ?_
      have hL_17 : ∀ v1, v1 ≤ 10 →  flI Sn U nP j1 n (ruS Sn U nP n 6) (flO Sn U nP n (ruS Sn U nP n 6) (6 - (j1 + 1)) (j1 + 1)) (10 - v1) v1 = flO Sn U nP n (ruS Sn U nP n 6) 6 0 → G X Z (wX Z a Sn Sm Sk T L U) 17 [(0, .ref (a 0 0)), (1, .int n), (2, .int (ruS Sn U nP n 6)), (3, .int (nI j1)), (4, .int (nI v1))] [] := by
        refine loopUp _ 10 ?_ (fun v1 hi_v1 ih_v1 => ?_)
        · intro  hq_v1
          refine g_iload hX dX_firstToLeak_17 4 rfl ?_
          refine g_bipush (v := 9) hX dX_firstToLeak_19 (by decide) ?_
          refine g_icmp_gt hX 50 dX_firstToLeak_21 (by decide) (fun c_21 => ?_) (fun c_21 => absurd (by decide) c_21)
          refine g_iinc (v := (nI (j1 + 1))) (lv1 := [(0, .ref (a 0 0)), (1, .int n), (2, .int (ruS Sn U nP n 6)), (3, .int (nI (j1 + 1))), (4, .int (nI 10))]) hX dX_firstToLeak_50 3 rfl (inc_nat _) (by decide) [1, 2, 3, 0, 4] rfl ?_
          refine g_goto hX 8 dX_firstToLeak_53 (by decide) ?_
          refine g_lv (lv1 := [(0, .ref (a 0 0)), (1, .int n), (2, .int (ruS Sn U nP n 6)), (3, .int (nI (j1 + 1)))]) [0, 1, 2, 3] rfl ?_
          exact ih_j1  (by rw [← hq_v1, Nat.sub_self]; rfl)
        · intro  hq_v1
          refine g_iload hX dX_firstToLeak_17 4 rfl ?_
          refine g_bipush (v := 9) hX dX_firstToLeak_19 (by decide) ?_
          refine g_icmp_gt hX 50 dX_firstToLeak_21 (by decide) (fun c_21 => absurd c_21 (nI_nlt (a := 9) (b := v1) (by omega) (by omega))) (fun c_21 => ?_)
          refine g_aload_n hX dX_firstToLeak_24 0 rfl ?_
          refine g_iload_n hX dX_firstToLeak_25 3 rfl ?_
          refine g_iload hX dX_firstToLeak_26 4 rfl ?_
          refine g_iload_n hX dX_firstToLeak_28 1 rfl ?_
          refine g_iload_n hX dX_firstToLeak_29 2 rfl ?_
          refine g_callV hX (con_X_wouldMakeAllSo l Z a Sn Sm Sk T L U (nI v1) n (ruS Sn U nP n 6) j1 (by omega) nP hP hP5) mvX_wouldMakeAllSo q_522 rfl (by decide) 0 rfl rfl rfl (Nat.le_of_ble_eq_true rfl) dX_firstToLeak_30 [0, 1, 2, 3, 4, 5, 6, 7, 8, 9, 10, 11, 12, 13, 14, 15, 16, 17, 18, 19, 20, 21, 22, 23, 24, 25, 26, 27, 28, 29, 30, 31, 32, 33, 34, 35, 36, 37, 38, 39, 40, 41, 42, 43, 44, 45, 46, 47, 48, 49, 50, 51, 52, 53] rfl (subX_all Z a Sn Sm Sk T L U) (g_fn (ws1 := wX Z a Sn Sm Sk T L U) (st1 := [.int (wmS Sn U nP j1 (nI v1) n (ruS Sn U nP n 6))]) (putX_all Z a Sn Sm Sk T L U Sn Sm Sk T L U) rfl ?_)
          refine g_if_eq hX 44 dX_firstToLeak_33 (by decide) (fun c_33 => ?_) (fun c_33 => ?_)
          · refine g_iinc (v := (nI (v1 + 1))) (lv1 := [(0, .ref (a 0 0)), (1, .int n), (2, .int (ruS Sn U nP n 6)), (3, .int (nI j1)), (4, .int (nI (v1 + 1)))]) hX dX_firstToLeak_44 4 rfl (inc_nat _) (by decide) [1, 2, 3, 4, 0] rfl ?_
            refine g_goto hX 17 dX_firstToLeak_47 (by decide) ?_
            exact ih_v1  (by rw [← hq_v1, show 10 - v1 = (10 - (v1 + 1)) + 1 by omega, flI, if_pos c_33])
          · refine g_bipush (v := 10) hX dX_firstToLeak_36 (by decide) ?_
            refine g_iload_n hX dX_firstToLeak_38 3 rfl ?_
            refine g_imul (z := (nI (10 * j1))) hX dX_firstToLeak_39 (pk_mul 10 j1) ?_
            refine g_iload hX dX_firstToLeak_40 4 rfl ?_
            refine g_iadd (z := (nI ((10 * j1) + v1))) hX dX_firstToLeak_42 (nI_add (10 * j1) v1) ?_
            exact r_iret hX hQ dX_firstToLeak_43 rfl (⟨by rw [← hq_v1, show 10 - v1 = (10 - (v1 + 1)) + 1 by omega, flI, if_neg c_33], rfl⟩)
      exact hL_17 0 (Nat.zero_le _)  (by rw [← hq_j1, show 6 - j1 = (6 - (j1 + 1)) + 1 by omega]; rfl)
  exact hL_8 0 (Nat.zero_le _)  (rfl)
set_option maxHeartbeats 4000000 in
set_option maxRecDepth 20000 in
theorem con_X_gauges (l : Launch) (Z : ZZ) (a : Nat → Nat → Nat) (Sn Sm Sk T L U : St) (x w : Int32) (nP : Nat) (hP : Sn 12 1 = nI nP) (hP5 : nP ≤ 5) (nR : Nat) (hR : U 0 1 = nI nR) (hR12 : nR ≤ 12) : Con l Z yX_gauges cX_gauges 3 (some .int) 7 [.ref (a 0 0), .int x, .int w] (wX Z a Sn Sm Sk T L U) (XP Z a (xf_gauges Sn Sk T U nP nR x w)) := by
  refine Con.of (by decide) (Nat.le_of_ble_eq_true rfl) (fun X hX hQ => ?_)
  show G X Z (wX Z a Sn Sm Sk T L U) 0 [(0, .ref (a 0 0)), (1, .int x), (2, .int w)] []
  refine g_iload_n hX dX_gauges_0 1 rfl ?_
  refine g_if_ge hX 11 dX_gauges_1 (by decide) (fun c_1 => ?_) (fun c_1 => ?_)
  · refine g_iload_n hX dX_gauges_11 1 rfl ?_
    refine g_bipush (v := 99) hX dX_gauges_12 (by decide) ?_
    refine g_icmp_le hX 24 dX_gauges_14 (by decide) (fun c_14 => ?_) (fun c_14 => ?_)
    · refine g_iload_n hX dX_gauges_24 2 rfl ?_
      refine g_if_lt hX 33 dX_gauges_25 (by decide) (fun c_25 => ?_) (fun c_25 => ?_)
      · refine g_aload_n hX dX_gauges_33 0 rfl ?_
        refine g_bipush (v := (-2)) hX dX_gauges_34 (by decide) ?_
        refine g_callV hX (con_X_refuse l Z a Sn Sm Sk T L U (-2) 2 (by decide) (by decide) (by decide) (by decide)) mvX_refuse q_163 rfl (by decide) 0 rfl rfl rfl (Nat.le_of_ble_eq_true rfl) dX_gauges_36 [0, 1, 2, 3, 4, 5, 6, 7, 8, 9, 10, 11, 12, 13, 14, 15, 16, 17, 18, 19, 20, 21, 22, 23, 24, 25, 26, 27, 28, 29, 30, 31, 32, 33, 34, 35, 36, 37, 38, 39, 40, 41, 42, 43, 44, 45, 46, 47, 48, 49, 50, 51, 52, 53] rfl (subX_all Z a Sn Sm Sk T L U) (g_fn (ws1 := wX Z a Sn Sm Sk T L (rfU U 2)) (st1 := [.int (-2)]) (putX_all Z a Sn Sm Sk T L U Sn Sm Sk T L (rfU U 2)) rfl ?_)
        exact r_iret hX hQ dX_gauges_39 rfl (by rw [show xf_gauges Sn Sk T U nP nR x w = ((-2), Sn, Sk, T, rfU U 2) from by simp [xf_gauges, c_1, c_14, c_25]]; exact ⟨rfl, _, _, rfl⟩)
      · refine g_iload_n hX dX_gauges_28 2 rfl ?_
        refine g_iconst (v := 2) hX dX_gauges_29 (by decide) ?_
        refine g_icmp_le hX 40 dX_gauges_30 (by decide) (fun c_30 => ?_) (fun c_30 => ?_)
        · refine g_aload_n hX dX_gauges_40 0 rfl ?_
          refine g_get hX 0 rfl rfl 7 (by decide) uu_X q_138 rfl rfl dX_gauges_41 ?_
          refine g_top (y := (nI nR)) (by first | exact hR | (simp [sw]; exact hR)) ?_
          refine g_bipush (v := 6) hX dX_gauges_44 (by decide) ?_
          refine g_icmp_eq hX 56 dX_gauges_46 (by decide) (fun c_46 => ?_) (fun c_46 => ?_)
          · refine g_iload_n hX dX_gauges_56 2 rfl ?_
            by_cases c_57_0 : w = 0
            · refine g_look (off := 27) hX 84 dX_gauges_57 (by decide) (by rw [c_57_0]; decide) (by decide) ?_
              refine g_aload_n hX dX_gauges_84 0 rfl ?_
              refine g_iload_n hX dX_gauges_85 1 rfl ?_
              refine g_callV hX (con_X_waysToLeak l Z a Sn Sm Sk T L U x nP hP hP5) mvX_waysToLeak q_510 rfl (by decide) 0 rfl rfl rfl (Nat.le_of_ble_eq_true rfl) dX_gauges_86 [0, 1, 2, 3, 4, 5, 6, 7, 8, 9, 10, 11, 12, 13, 14, 15, 16, 17, 18, 19, 20, 21, 22, 23, 24, 25, 26, 27, 28, 29, 30, 31, 32, 33, 34, 35, 36, 37, 38, 39, 40, 41, 42, 43, 44, 45, 46, 47, 48, 49, 50, 51, 52, 53] rfl (subX_all Z a Sn Sm Sk T L U) (g_fn (ws1 := wX Z a Sn Sm Sk T L U) (st1 := [.int (wlO Sn U nP x (ruS Sn U nP x 6) 6)]) (putX_all Z a Sn Sm Sk T L U Sn Sm Sk T L U) rfl ?_)
              exact r_iret hX hQ dX_gauges_89 rfl (by rw [show xf_gauges Sn Sk T U nP nR x w = ((wlO Sn U nP x (ruS Sn U nP x 6) 6), Sn, Sk, T, U) from by simp [xf_gauges, c_1, c_14, c_25, c_30, c_46, c_57_0]]; exact ⟨rfl, _, _, rfl⟩)
            by_cases c_57_1 : w = 1
            · refine g_look (off := 33) hX 90 dX_gauges_57 (by decide) (by rw [c_57_1]; decide) (by decide) ?_
              refine g_aload_n hX dX_gauges_90 0 rfl ?_
              refine g_iload_n hX dX_gauges_91 1 rfl ?_
              refine g_callV hX (con_X_firstToLeak l Z a Sn Sm Sk T L U x nP hP hP5) mvX_firstToLeak q_526 rfl (by decide) 0 rfl rfl rfl (Nat.le_of_ble_eq_true rfl) dX_gauges_92 [0, 1, 2, 3, 4, 5, 6, 7, 8, 9, 10, 11, 12, 13, 14, 15, 16, 17, 18, 19, 20, 21, 22, 23, 24, 25, 26, 27, 28, 29, 30, 31, 32, 33, 34, 35, 36, 37, 38, 39, 40, 41, 42, 43, 44, 45, 46, 47, 48, 49, 50, 51, 52, 53] rfl (subX_all Z a Sn Sm Sk T L U) (g_fn (ws1 := wX Z a Sn Sm Sk T L U) (st1 := [.int (flO Sn U nP x (ruS Sn U nP x 6) 6 0)]) (putX_all Z a Sn Sm Sk T L U Sn Sm Sk T L U) rfl ?_)
              exact r_iret hX hQ dX_gauges_95 rfl (by rw [show xf_gauges Sn Sk T U nP nR x w = ((flO Sn U nP x (ruS Sn U nP x 6) 6 0), Sn, Sk, T, U) from by simp [xf_gauges, c_1, c_14, c_25, c_30, c_46, c_57_0, c_57_1]]; exact ⟨rfl, _, _, rfl⟩)
            refine g_look (off := 39) hX 96 dX_gauges_57 (by decide) (by rw [lv_osw c_57_0 (by decide)]; rw [lv_osw c_57_1 (by decide)]; rfl) (by decide) ?_
            refine g_aload_n hX dX_gauges_96 0 rfl ?_
            refine g_iload_n hX dX_gauges_97 1 rfl ?_
            refine g_callV hX (con_X_roomsUnlikeTold l Z a Sn Sm Sk T L U x nP hP hP5) mvX_roomsUnlikeTold q_514 rfl (by decide) 0 rfl rfl rfl (Nat.le_of_ble_eq_true rfl) dX_gauges_98 [0, 1, 2, 3, 4, 5, 6, 7, 8, 9, 10, 11, 12, 13, 14, 15, 16, 17, 18, 19, 20, 21, 22, 23, 24, 25, 26, 27, 28, 29, 30, 31, 32, 33, 34, 35, 36, 37, 38, 39, 40, 41, 42, 43, 44, 45, 46, 47, 48, 49, 50, 51, 52, 53] rfl (subX_all Z a Sn Sm Sk T L U) (g_fn (ws1 := wX Z a Sn Sm Sk T L U) (st1 := [.int (ruS Sn U nP x 6)]) (putX_all Z a Sn Sm Sk T L U Sn Sm Sk T L U) rfl ?_)
            refine g_if_ne hX 108 dX_gauges_101 (by decide) (fun c_101 => ?_) (fun c_101 => ?_)
            · refine g_iconst (v := 0) hX dX_gauges_108 (by decide) ?_
              exact r_iret hX hQ dX_gauges_109 rfl (by rw [show xf_gauges Sn Sk T U nP nR x w = (0, Sn, Sk, T, U) from by simp [xf_gauges, c_1, c_14, c_25, c_30, c_46, c_57_0, c_57_1, c_101]]; exact ⟨rfl, _, _, rfl⟩)
            · refine g_iconst (v := 1) hX dX_gauges_104 (by decide) ?_
              refine g_goto hX 109 dX_gauges_105 (by decide) ?_
              exact r_iret hX hQ dX_gauges_109 rfl (by rw [show xf_gauges Sn Sk T U nP nR x w = (1, Sn, Sk, T, U) from by simp [xf_gauges, c_1, c_14, c_25, c_30, c_46, c_57_0, c_57_1, c_101]]; exact ⟨rfl, _, _, rfl⟩)
          · refine g_aload_n hX dX_gauges_49 0 rfl ?_
            refine g_bipush (v := (-3)) hX dX_gauges_50 (by decide) ?_
            refine g_callV hX (con_X_refuse l Z a Sn Sm Sk T L U (-3) 3 (by decide) (by decide) (by decide) (by decide)) mvX_refuse q_163 rfl (by decide) 0 rfl rfl rfl (Nat.le_of_ble_eq_true rfl) dX_gauges_52 [0, 1, 2, 3, 4, 5, 6, 7, 8, 9, 10, 11, 12, 13, 14, 15, 16, 17, 18, 19, 20, 21, 22, 23, 24, 25, 26, 27, 28, 29, 30, 31, 32, 33, 34, 35, 36, 37, 38, 39, 40, 41, 42, 43, 44, 45, 46, 47, 48, 49, 50, 51, 52, 53] rfl (subX_all Z a Sn Sm Sk T L U) (g_fn (ws1 := wX Z a Sn Sm Sk T L (rfU U 3)) (st1 := [.int (-3)]) (putX_all Z a Sn Sm Sk T L U Sn Sm Sk T L (rfU U 3)) rfl ?_)
            exact r_iret hX hQ dX_gauges_55 rfl (by rw [show xf_gauges Sn Sk T U nP nR x w = ((-3), Sn, Sk, T, rfU U 3) from by simp [xf_gauges, c_1, c_14, c_25, c_30, c_46]]; exact ⟨rfl, _, _, rfl⟩)
        · refine g_aload_n hX dX_gauges_33 0 rfl ?_
          refine g_bipush (v := (-2)) hX dX_gauges_34 (by decide) ?_
          refine g_callV hX (con_X_refuse l Z a Sn Sm Sk T L U (-2) 2 (by decide) (by decide) (by decide) (by decide)) mvX_refuse q_163 rfl (by decide) 0 rfl rfl rfl (Nat.le_of_ble_eq_true rfl) dX_gauges_36 [0, 1, 2, 3, 4, 5, 6, 7, 8, 9, 10, 11, 12, 13, 14, 15, 16, 17, 18, 19, 20, 21, 22, 23, 24, 25, 26, 27, 28, 29, 30, 31, 32, 33, 34, 35, 36, 37, 38, 39, 40, 41, 42, 43, 44, 45, 46, 47, 48, 49, 50, 51, 52, 53] rfl (subX_all Z a Sn Sm Sk T L U) (g_fn (ws1 := wX Z a Sn Sm Sk T L (rfU U 2)) (st1 := [.int (-2)]) (putX_all Z a Sn Sm Sk T L U Sn Sm Sk T L (rfU U 2)) rfl ?_)
          exact r_iret hX hQ dX_gauges_39 rfl (by rw [show xf_gauges Sn Sk T U nP nR x w = ((-2), Sn, Sk, T, rfU U 2) from by simp [xf_gauges, c_1, c_14, c_25, c_30]]; exact ⟨rfl, _, _, rfl⟩)
    · refine g_aload_n hX dX_gauges_17 0 rfl ?_
      refine g_bipush (v := (-6)) hX dX_gauges_18 (by decide) ?_
      refine g_callV hX (con_X_refuse l Z a Sn Sm Sk T L U (-6) 6 (by decide) (by decide) (by decide) (by decide)) mvX_refuse q_163 rfl (by decide) 0 rfl rfl rfl (Nat.le_of_ble_eq_true rfl) dX_gauges_20 [0, 1, 2, 3, 4, 5, 6, 7, 8, 9, 10, 11, 12, 13, 14, 15, 16, 17, 18, 19, 20, 21, 22, 23, 24, 25, 26, 27, 28, 29, 30, 31, 32, 33, 34, 35, 36, 37, 38, 39, 40, 41, 42, 43, 44, 45, 46, 47, 48, 49, 50, 51, 52, 53] rfl (subX_all Z a Sn Sm Sk T L U) (g_fn (ws1 := wX Z a Sn Sm Sk T L (rfU U 6)) (st1 := [.int (-6)]) (putX_all Z a Sn Sm Sk T L U Sn Sm Sk T L (rfU U 6)) rfl ?_)
      exact r_iret hX hQ dX_gauges_23 rfl (by rw [show xf_gauges Sn Sk T U nP nR x w = ((-6), Sn, Sk, T, rfU U 6) from by simp [xf_gauges, c_1, c_14]]; exact ⟨rfl, _, _, rfl⟩)
  · refine g_aload_n hX dX_gauges_4 0 rfl ?_
    refine g_bipush (v := (-4)) hX dX_gauges_5 (by decide) ?_
    refine g_callV hX (con_X_refuse l Z a Sn Sm Sk T L U (-4) 4 (by decide) (by decide) (by decide) (by decide)) mvX_refuse q_163 rfl (by decide) 0 rfl rfl rfl (Nat.le_of_ble_eq_true rfl) dX_gauges_7 [0, 1, 2, 3, 4, 5, 6, 7, 8, 9, 10, 11, 12, 13, 14, 15, 16, 17, 18, 19, 20, 21, 22, 23, 24, 25, 26, 27, 28, 29, 30, 31, 32, 33, 34, 35, 36, 37, 38, 39, 40, 41, 42, 43, 44, 45, 46, 47, 48, 49, 50, 51, 52, 53] rfl (subX_all Z a Sn Sm Sk T L U) (g_fn (ws1 := wX Z a Sn Sm Sk T L (rfU U 4)) (st1 := [.int (-4)]) (putX_all Z a Sn Sm Sk T L U Sn Sm Sk T L (rfU U 4)) rfl ?_)
    exact r_iret hX hQ dX_gauges_10 rfl (by rw [show xf_gauges Sn Sk T U nP nR x w = ((-4), Sn, Sk, T, rfU U 4) from by simp [xf_gauges, c_1]]; exact ⟨rfl, _, _, rfl⟩)

/-! the Burrow: telling, suits -/
def okAir (x v : Int32) : Int32 := if isRoomS x = 0 then 0 else if v < 0 then 0 else if v ≤ 999 then 1 else 0
def tellAirS (S : St) (x v : Int32) : St := if okAir x v = 1 then sw S 0 (cl x) v else S
def okLeak (x v : Int32) : Int32 := if isRoomS x = 0 then 0 else if v < 0 then 0 else if v ≤ 9 then 1 else 0
def tellLeakS (S : St) (x v : Int32) : St := if okLeak x v = 1 then sw S 1 (cl x) v else S
def okLock (nL : Nat) (x y t c : Int32) : Int32 := if isPlaceS x = 0 then 0 else if isPlaceS y = 0 then 0 else if ¬ x = y then (if t < 0 then 0 else if c < 1 then 0 else if nI nL < 7 then 1 else 0) else 0
def addLock (S : St) (nL : Nat) (x y t c : Int32) : St := sw (sw (sw (sw (sw (sw S 2 nL (mn x y)) 3 nL (mx x y)) 4 nL t) 5 nL c) 6 nL 0) 12 0 (nI (nL + 1))
def tellLockS (S : St) (nL : Nat) (x y t c : Int32) : St := if okLock nL x y t c = 1 then addLock S nL x y t c else S
def okPerson (nP : Nat) (k x f s : Int32) : Int32 := if k < 0 then 0 else if isPlaceS x = 0 then 0 else if f < 1 then 0 else if f ≤ 5 then (if s < 0 then 0 else if nI nP < 5 then 1 else 0) else 0
def addPerson (S : St) (nP : Nat) (k x f s : Int32) : St := sw (sw (sw (sw (sw S 7 nP k) 8 nP x) 9 nP f) 10 nP s) 12 1 (nI (nP + 1))
def tellPersonS (S : St) (nP : Nat) (k x f s : Int32) : St := if okPerson nP k x f s = 1 then addPerson S nP k x f s else S
def okSuits (f v : Int32) : Int32 := if f < 1 then 0 else if 5 < f then 0 else if v < 0 then 0 else if v ≤ 5 then 1 else 0
def tellSuitsS (S : St) (f v : Int32) : St := if okSuits f v = 1 then sw S 11 (cl f) v else S
theorem fit_of {x : Int32} (h1 : ¬ x < 1) (h2 : ¬ 5 < x) : ∃ j, 1 ≤ j ∧ j ≤ 5 ∧ x = nI j := by
  have h0 : ¬ x < 0 := fun q => h1 (by
    rw [Int32.lt_iff_toInt_lt] at q ⊢
    have e0 : (0 : Int32).toInt = 0 := by decide
    have e1 : (1 : Int32).toInt = 1 := by decide
    omega)
  obtain ⟨j, hj, rfl⟩ := nI_of h0
  have h3 : ¬ nI j < nI 1 := h1
  have h4 : ¬ nI 5 < nI j := h2
  rw [nI_ltI hj (by omega)] at h3
  rw [nI_ltI (by omega) hj] at h4
  exact ⟨j, by omega, by omega, rfl⟩
def pof (S : St) (f bits : Int32) : Nat → Int32
  | 0 => 0
  | n + 1 => if ¬ S 9 n = f then pof S f bits n else if ¬ ((bits >>> (nI n &&& 31)) &&& 1) = 0 then pof S f bits n else pof S f bits n + 1
/-- from a fit on, with so many who want the next fit's -/
def enL (S : St) (nP : Nat) (bits : Int32) : Nat → Nat → Int32 → Int32
  | 0, _, x => one0 x
  | r + 1, f, x => if 0 ≤ S 11 f - x then enL S nP bits r (f + 1) (mx 0 (pof S (nI f) bits nP - (S 11 f - x))) else 0
def enough (S : St) (nP : Nat) (bits : Int32) : Int32 := enL S nP bits 5 1 0
/-- how many bits, of a small number -/
def pc5 (j : Nat) : Nat := j % 2 + j / 2 % 2 + j / 4 % 2 + j / 8 % 2 + j / 16 % 2
theorem pc5_le (j : Nat) : pc5 j ≤ 5 := by unfold pc5; omega
def lbS (S : St) (nP all : Nat) : Nat → Nat
  | 0 => all
  | n + 1 => if pc5 n < pc5 (lbS S nP all n) ∧ ¬ enough S nP (nI n) = 0 then n else lbS S nP all n
theorem lbS_le (S : St) (nP all : Nat) (h : all < 32) : ∀ n, n ≤ all → lbS S nP all n < 32
  | 0, _ => h
  | n + 1, hn => by
    rw [lbS]
    split
    · omega
    · exact lbS_le S nP all h n (by omega)
theorem shl_small : ∀ n, n ≤ 5 → ((1 : Int32) <<< (nI n &&& 31)) - 1 = nI (2 ^ n - 1) := by decide
theorem all_lt : ∀ n, n ≤ 5 → 2 ^ n - 1 < 32 := by decide
def leastBareS (S : St) (nP : Nat) : Nat := lbS S nP (2 ^ nP - 1) (2 ^ nP - 1)
def bcf (x : Int32) : Int32 :=
  let x1 := x - ((x.toUInt32 >>> ((1 : Int32).toUInt32 &&& Int32.toUInt32 31)).toInt32 &&& 1431655765)
  let x2 := (x1 &&& 858993459) + ((x1.toUInt32 >>> ((2 : Int32).toUInt32 &&& Int32.toUInt32 31)).toInt32 &&& 858993459)
  let x3 := (x2 + (x2.toUInt32 >>> ((4 : Int32).toUInt32 &&& Int32.toUInt32 31)).toInt32) &&& 252645135
  let x4 := x3 + (x3.toUInt32 >>> ((8 : Int32).toUInt32 &&& Int32.toUInt32 31)).toInt32
  let x5 := x4 + (x4.toUInt32 >>> ((16 : Int32).toUInt32 &&& Int32.toUInt32 31)).toInt32
  x5 &&& 63
theorem bc_fact : ∀ j, j < 32 → bcf (nI j) = nI (pc5 j) := by decide +kernel
theorem bc_end {j : Nat} {x1 x2 x3 x4 x5 : Int32} (e1 : x1 = nI j - (((nI j).toUInt32 >>> ((1 : Int32).toUInt32 &&& Int32.toUInt32 31)).toInt32 &&& 1431655765))
    (e2 : x2 = (x1 &&& 858993459) + ((x1.toUInt32 >>> ((2 : Int32).toUInt32 &&& Int32.toUInt32 31)).toInt32 &&& 858993459)) (e3 : x3 = (x2 + (x2.toUInt32 >>> ((4 : Int32).toUInt32 &&& Int32.toUInt32 31)).toInt32) &&& 252645135)
    (e4 : x4 = x3 + (x3.toUInt32 >>> ((8 : Int32).toUInt32 &&& Int32.toUInt32 31)).toInt32) (e5 : x5 = x4 + (x4.toUInt32 >>> ((16 : Int32).toUInt32 &&& Int32.toUInt32 31)).toInt32) (hj : j < 32) : x5 &&& 63 = nI (pc5 j) := by
  rw [← bc_fact j hj, e5, e4, e3, e2, e1]
  rfl
theorem lb_hi {a b : Nat} (h : ¬ nI (pc5 a) < nI (pc5 b)) : ¬ pc5 a < pc5 b := by
  have := pc5_le a
  have := pc5_le b
  rwa [nI_ltI (by omega) (by omega)] at h
theorem lb_lo {a b : Nat} (h : ¬ nI (pc5 b) ≤ nI (pc5 a)) : pc5 a < pc5 b := by
  have := pc5_le a
  have := pc5_le b
  rw [nI_leI (by omega) (by omega)] at h
  omega
theorem lb_no {S : St} {nP all i : Nat} (h : nI (pc5 (lbS S nP all i)) ≤ nI (pc5 i)) : nI (lbS S nP all i) = nI (lbS S nP all (i + 1)) := by
  have h1 := pc5_le i
  have h2 := pc5_le (lbS S nP all i)
  rw [nI_leI (by omega) (by omega)] at h
  rw [lbS, if_neg (fun q => by omega)]
theorem lb_no2 {S : St} {nP all i : Nat} (h : enough S nP (nI i) = 0) : nI (lbS S nP all i) = nI (lbS S nP all (i + 1)) := by
  rw [lbS, if_neg (fun q => q.2 h)]
theorem lb_yes {S : St} {nP all i : Nat} (h : ¬ nI (pc5 (lbS S nP all i)) ≤ nI (pc5 i)) (h2 : ¬ enough S nP (nI i) = 0) : nI i = nI (lbS S nP all (i + 1)) := by
  rw [lbS, if_pos ⟨lb_lo h, h2⟩]
set_option maxHeartbeats 4000000 in
set_option maxRecDepth 20000 in
theorem con_B_tellAir (l : Launch) (Z : ZZ) (h : Nat) (q : Nat → Nat) (S : St) (x v : Int32) : Con l Z yB_tellAir cB_tellAir 3 (some .boolean) 1 [.ref h, .int x, .int v] (wB Z h q S) (Fn (some (.int (okAir x v))) (wB Z h q (tellAirS S x v))) := by
  refine Con.of (by decide) (Nat.le_of_ble_eq_true rfl) (fun X hX hQ => ?_)
  show G X Z (wB Z h q S) 0 [(0, .ref h), (1, .int x), (2, .int v)] []
  refine g_iload_n hX dB_tellAir_0 1 rfl ?_
  refine g_callN hX (con_X_isRoom l Z x) msX_isRoom (fun U H hE => hE.1.2.1) rfl (by decide) rfl (Nat.le_of_ble_eq_true rfl) dB_tellAir_1 [] rfl rfl (g_fn (ws1 := wB Z h q S) (st1 := [.int (isRoomS x)]) rfl rfl ?_)
  refine g_if_eq hX 18 dB_tellAir_4 (by decide) (fun c_4 => ?_) (fun c_4 => ?_)
  · refine g_iconst (v := 0) hX dB_tellAir_18 (by decide) ?_
    exact r_zret hX hQ (rfl) dB_tellAir_19 rfl (⟨by simp [okAir, c_4], congrArg (wB Z h q) (if_neg (by simp [okAir, c_4])).symm⟩)
  · refine g_iload_n hX dB_tellAir_7 2 rfl ?_
    refine g_if_lt hX 18 dB_tellAir_8 (by decide) (fun c_8 => ?_) (fun c_8 => ?_)
    · refine g_iconst (v := 0) hX dB_tellAir_18 (by decide) ?_
      exact r_zret hX hQ (rfl) dB_tellAir_19 rfl (⟨by simp [okAir, c_4, c_8], congrArg (wB Z h q) (if_neg (by simp [okAir, c_4, c_8])).symm⟩)
    · refine g_iload_n hX dB_tellAir_11 2 rfl ?_
      refine g_sipush (v := 999) hX dB_tellAir_12 (by decide) ?_
      refine g_icmp_le hX 20 dB_tellAir_15 (by decide) (fun c_15 => ?_) (fun c_15 => ?_)
      · obtain ⟨r, hr6, rfl⟩ := isRoom_of c_4
        refine g_aload_n hX dB_tellAir_20 0 rfl ?_
        refine g_get hX 0 rfl rfl 0 (by decide) uu_B q_32 rfl rfl dB_tellAir_21 ?_
        refine g_iload_n hX dB_tellAir_24 1 rfl ?_
        refine g_iload_n hX dB_tellAir_25 2 rfl ?_
        refine g_ast (ws1 := wB Z h q (sw S 0 r v)) hX 1 rfl r (by omega) (by decide) (rfl) dB_tellAir_26 (setB_S_0 Z h q S r v) ?_
        refine g_iconst (v := 1) hX dB_tellAir_27 (by decide) ?_
        exact r_zret hX hQ (rfl) dB_tellAir_28 rfl (⟨by simp [okAir, c_4, c_8, c_15], congrArg (wB Z h q) ((if_pos (by simp [okAir, c_4, c_8, c_15])).trans (by rw [show cl (nI r) = r from nI_clamp (by omega)])).symm⟩)
      · refine g_iconst (v := 0) hX dB_tellAir_18 (by decide) ?_
        exact r_zret hX hQ (rfl) dB_tellAir_19 rfl (⟨by simp [okAir, c_4, c_8, c_15], congrArg (wB Z h q) (if_neg (by simp [okAir, c_4, c_8, c_15])).symm⟩)
set_option maxHeartbeats 4000000 in
set_option maxRecDepth 20000 in
theorem con_B_tellLeak (l : Launch) (Z : ZZ) (h : Nat) (q : Nat → Nat) (S : St) (x v : Int32) : Con l Z yB_tellLeak cB_tellLeak 3 (some .boolean) 1 [.ref h, .int x, .int v] (wB Z h q S) (Fn (some (.int (okLeak x v))) (wB Z h q (tellLeakS S x v))) := by
  refine Con.of (by decide) (Nat.le_of_ble_eq_true rfl) (fun X hX hQ => ?_)
  show G X Z (wB Z h q S) 0 [(0, .ref h), (1, .int x), (2, .int v)] []
  refine g_iload_n hX dB_tellLeak_0 1 rfl ?_
  refine g_callN hX (con_X_isRoom l Z x) msX_isRoom (fun U H hE => hE.1.2.1) rfl (by decide) rfl (Nat.le_of_ble_eq_true rfl) dB_tellLeak_1 [] rfl rfl (g_fn (ws1 := wB Z h q S) (st1 := [.int (isRoomS x)]) rfl rfl ?_)
  refine g_if_eq hX 17 dB_tellLeak_4 (by decide) (fun c_4 => ?_) (fun c_4 => ?_)
  · refine g_iconst (v := 0) hX dB_tellLeak_17 (by decide) ?_
    exact r_zret hX hQ (rfl) dB_tellLeak_18 rfl (⟨by simp [okLeak, c_4], congrArg (wB Z h q) (if_neg (by simp [okLeak, c_4])).symm⟩)
  · refine g_iload_n hX dB_tellLeak_7 2 rfl ?_
    refine g_if_lt hX 17 dB_tellLeak_8 (by decide) (fun c_8 => ?_) (fun c_8 => ?_)
    · refine g_iconst (v := 0) hX dB_tellLeak_17 (by decide) ?_
      exact r_zret hX hQ (rfl) dB_tellLeak_18 rfl (⟨by simp [okLeak, c_4, c_8], congrArg (wB Z h q) (if_neg (by simp [okLeak, c_4, c_8])).symm⟩)
    · refine g_iload_n hX dB_tellLeak_11 2 rfl ?_
      refine g_bipush (v := 9) hX dB_tellLeak_12 (by decide) ?_
      refine g_icmp_le hX 19 dB_tellLeak_14 (by decide) (fun c_14 => ?_) (fun c_14 => ?_)
      · refine g_aload_n hX dB_tellLeak_19 0 rfl ?_
        obtain ⟨r, hr6, rfl⟩ := isRoom_of c_4
        refine g_get hX 0 rfl rfl 1 (by decide) uu_B q_34 rfl rfl dB_tellLeak_20 ?_
        refine g_iload_n hX dB_tellLeak_23 1 rfl ?_
        refine g_iload_n hX dB_tellLeak_24 2 rfl ?_
        refine g_ast (ws1 := wB Z h q (sw S 1 r v)) hX 2 rfl r (by omega) (by decide) (rfl) dB_tellLeak_25 (setB_S_1 Z h q S r v) ?_
        refine g_iconst (v := 1) hX dB_tellLeak_26 (by decide) ?_
        exact r_zret hX hQ (rfl) dB_tellLeak_27 rfl (⟨by simp [okLeak, c_4, c_8, c_14], congrArg (wB Z h q) ((if_pos (by simp [okLeak, c_4, c_8, c_14])).trans (by rw [show cl (nI r) = r from nI_clamp (by omega)])).symm⟩)
      · refine g_iconst (v := 0) hX dB_tellLeak_17 (by decide) ?_
        exact r_zret hX hQ (rfl) dB_tellLeak_18 rfl (⟨by simp [okLeak, c_4, c_8, c_14], congrArg (wB Z h q) (if_neg (by simp [okLeak, c_4, c_8, c_14])).symm⟩)
set_option maxHeartbeats 4000000 in
set_option maxRecDepth 20000 in
theorem con_B_tellLock (l : Launch) (Z : ZZ) (h : Nat) (q : Nat → Nat) (S : St) (x y t c : Int32) (nL : Nat) (hL : S 12 0 = nI nL) (hL7 : nL ≤ 7) : Con l Z yB_tellLock cB_tellLock 5 (some .boolean) 1 [.ref h, .int x, .int y, .int t, .int c] (wB Z h q S) (Fn (some (.int (okLock nL x y t c))) (wB Z h q (tellLockS S nL x y t c))) := by
  refine Con.of (by decide) (Nat.le_of_ble_eq_true rfl) (fun X hX hQ => ?_)
  show G X Z (wB Z h q S) 0 [(0, .ref h), (1, .int x), (2, .int y), (3, .int t), (4, .int c)] []
  refine g_iload_n hX dB_tellLock_0 1 rfl ?_
  refine g_callN hX (con_X_isPlace l Z x) msX_isPlace (fun U H hE => hE.1.2.2.1) rfl (by decide) rfl (Nat.le_of_ble_eq_true rfl) dB_tellLock_1 [] rfl rfl (g_fn (ws1 := wB Z h q S) (st1 := [.int (isPlaceS x)]) rfl rfl ?_)
  refine g_if_eq hX 19 dB_tellLock_4 (by decide) (fun c_4 => ?_) (fun c_4 => ?_)
  · refine g_iconst (v := 0) hX dB_tellLock_19 (by decide) ?_
    exact r_zret hX hQ (rfl) dB_tellLock_20 rfl (⟨by simp [okLock, c_4], congrArg (wB Z h q) (if_neg (by simp [okLock, c_4])).symm⟩)
  · refine g_iload_n hX dB_tellLock_7 2 rfl ?_
    refine g_callN hX (con_X_isPlace l Z y) msX_isPlace (fun U H hE => hE.1.2.2.1) rfl (by decide) rfl (Nat.le_of_ble_eq_true rfl) dB_tellLock_8 [] rfl rfl (g_fn (ws1 := wB Z h q S) (st1 := [.int (isPlaceS y)]) rfl rfl ?_)
    refine g_if_eq hX 19 dB_tellLock_11 (by decide) (fun c_11 => ?_) (fun c_11 => ?_)
    · refine g_iconst (v := 0) hX dB_tellLock_19 (by decide) ?_
      exact r_zret hX hQ (rfl) dB_tellLock_20 rfl (⟨by simp [okLock, c_4, c_11], congrArg (wB Z h q) (if_neg (by simp [okLock, c_4, c_11])).symm⟩)
    · refine g_iload_n hX dB_tellLock_14 1 rfl ?_
      refine g_iload_n hX dB_tellLock_15 2 rfl ?_
      refine g_icmp_ne hX 21 dB_tellLock_16 (by decide) (fun c_16 => ?_) (fun c_16 => ?_)
      · refine g_iload_n hX dB_tellLock_21 3 rfl ?_
        refine g_if_lt hX 40 dB_tellLock_22 (by decide) (fun c_22 => ?_) (fun c_22 => ?_)
        · refine g_iconst (v := 0) hX dB_tellLock_40 (by decide) ?_
          exact r_zret hX hQ (rfl) dB_tellLock_41 rfl (⟨by simp [okLock, c_4, c_11, c_16, c_22], congrArg (wB Z h q) (if_neg (by simp [okLock, c_4, c_11, c_16, c_22])).symm⟩)
        · refine g_iload hX dB_tellLock_25 4 rfl ?_
          refine g_iconst (v := 1) hX dB_tellLock_27 (by decide) ?_
          refine g_icmp_lt hX 40 dB_tellLock_28 (by decide) (fun c_28 => ?_) (fun c_28 => ?_)
          · refine g_iconst (v := 0) hX dB_tellLock_40 (by decide) ?_
            exact r_zret hX hQ (rfl) dB_tellLock_41 rfl (⟨by simp [okLock, c_4, c_11, c_16, c_22, c_28], congrArg (wB Z h q) (if_neg (by simp [okLock, c_4, c_11, c_16, c_22, c_28])).symm⟩)
          · refine g_aload_n hX dB_tellLock_31 0 rfl ?_
            refine g_get hX 0 rfl rfl 7 (by decide) uu_B q_49 rfl rfl dB_tellLock_32 ?_
            refine g_top (y := (nI nL)) (by first | exact hL | (simp [sw]; exact hL)) ?_
            refine g_bipush (v := 7) hX dB_tellLock_35 (by decide) ?_
            refine g_icmp_lt hX 42 dB_tellLock_37 (by decide) (fun c_37 => ?_) (fun c_37 => ?_)
            · have hl7 : nL < 7 := (nI_ltI (a := nL) (b := 7) (by omega) (by omega)).mp c_37
              refine g_aload_n hX dB_tellLock_42 0 rfl ?_
              refine g_get hX 0 rfl rfl 2 (by decide) uu_B q_36 rfl rfl dB_tellLock_43 ?_
              refine g_aload_n hX dB_tellLock_46 0 rfl ?_
              refine g_get hX 0 rfl rfl 7 (by decide) uu_B q_49 rfl rfl dB_tellLock_47 ?_
              refine g_top (y := (nI nL)) (by first | exact hL | (simp [sw]; exact hL)) ?_
              refine g_iload_n hX dB_tellLock_50 1 rfl ?_
              refine g_iload_n hX dB_tellLock_51 2 rfl ?_
              refine g_mmin (z := (mn x y)) hX q_297 q_298 q_12 q_299 dB_tellLock_52 (by decide) (Nat.le_of_ble_eq_true rfl) (rfl) ?_
              refine g_ast (ws1 := wB Z h q (sw S 2 nL (mn x y))) hX 3 rfl nL (by omega) (by decide) (rfl) dB_tellLock_55 (setB_S_2 Z h q S nL (mn x y)) ?_
              refine g_aload_n hX dB_tellLock_56 0 rfl ?_
              refine g_get hX 0 rfl rfl 3 (by decide) uu_B q_39 rfl rfl dB_tellLock_57 ?_
              refine g_aload_n hX dB_tellLock_60 0 rfl ?_
              refine g_get hX 0 rfl rfl 7 (by decide) uu_B q_49 rfl rfl dB_tellLock_61 ?_
              refine g_top (y := (nI nL)) (by first | exact hL | (simp [sw]; exact hL)) ?_
              refine g_iload_n hX dB_tellLock_64 1 rfl ?_
              refine g_iload_n hX dB_tellLock_65 2 rfl ?_
              refine g_mmax (z := (mx x y)) hX q_300 q_301 q_12 q_302 dB_tellLock_66 (by decide) (Nat.le_of_ble_eq_true rfl) (rfl) ?_
              refine g_ast (ws1 := wB Z h q (sw (sw S 2 nL (mn x y)) 3 nL (mx x y))) hX 4 rfl nL (by omega) (by decide) (rfl) dB_tellLock_69 (setB_S_3 Z h q (sw S 2 nL (mn x y)) nL (mx x y)) ?_
              refine g_aload_n hX dB_tellLock_70 0 rfl ?_
              refine g_get hX 0 rfl rfl 4 (by decide) uu_B q_42 rfl rfl dB_tellLock_71 ?_
              refine g_aload_n hX dB_tellLock_74 0 rfl ?_
              refine g_get hX 0 rfl rfl 7 (by decide) uu_B q_49 rfl rfl dB_tellLock_75 ?_
              refine g_top (y := (nI nL)) (by first | exact hL | (simp [sw]; exact hL)) ?_
              refine g_iload_n hX dB_tellLock_78 3 rfl ?_
              refine g_ast (ws1 := wB Z h q (sw (sw (sw S 2 nL (mn x y)) 3 nL (mx x y)) 4 nL t)) hX 5 rfl nL (by omega) (by decide) (rfl) dB_tellLock_79 (setB_S_4 Z h q (sw (sw S 2 nL (mn x y)) 3 nL (mx x y)) nL t) ?_
              refine g_aload_n hX dB_tellLock_80 0 rfl ?_
              refine g_get hX 0 rfl rfl 5 (by decide) uu_B q_44 rfl rfl dB_tellLock_81 ?_
              refine g_aload_n hX dB_tellLock_84 0 rfl ?_
              refine g_get hX 0 rfl rfl 7 (by decide) uu_B q_49 rfl rfl dB_tellLock_85 ?_
              refine g_top (y := (nI nL)) (by first | exact hL | (simp [sw]; exact hL)) ?_
              refine g_iload hX dB_tellLock_88 4 rfl ?_
              refine g_ast (ws1 := wB Z h q (sw (sw (sw (sw S 2 nL (mn x y)) 3 nL (mx x y)) 4 nL t) 5 nL c)) hX 6 rfl nL (by omega) (by decide) (rfl) dB_tellLock_90 (setB_S_5 Z h q (sw (sw (sw S 2 nL (mn x y)) 3 nL (mx x y)) 4 nL t) nL c) ?_
              refine g_aload_n hX dB_tellLock_91 0 rfl ?_
              refine g_get hX 0 rfl rfl 6 (by decide) uu_B q_47 rfl rfl dB_tellLock_92 ?_
              refine g_aload_n hX dB_tellLock_95 0 rfl ?_
              refine g_get hX 0 rfl rfl 7 (by decide) uu_B q_49 rfl rfl dB_tellLock_96 ?_
              refine g_top (y := (nI nL)) (by first | exact hL | (simp [sw]; exact hL)) ?_
              refine g_iconst (v := 0) hX dB_tellLock_99 (by decide) ?_
              refine g_ast (ws1 := wB Z h q (sw (sw (sw (sw (sw S 2 nL (mn x y)) 3 nL (mx x y)) 4 nL t) 5 nL c) 6 nL 0)) hX 7 rfl nL (by omega) (by decide) (rfl) dB_tellLock_100 (setB_S_6 Z h q (sw (sw (sw (sw S 2 nL (mn x y)) 3 nL (mx x y)) 4 nL t) 5 nL c) nL 0) ?_
              refine g_aload_n hX dB_tellLock_101 0 rfl ?_
              refine g_dup hX dB_tellLock_102 rfl ?_
              refine g_get hX 0 rfl rfl 7 (by decide) uu_B q_49 rfl rfl dB_tellLock_103 ?_
              refine g_top (y := (nI nL)) (by first | exact hL | (simp [sw]; exact hL)) ?_
              refine g_iconst (v := 1) hX dB_tellLock_106 (by decide) ?_
              refine g_iadd (z := (nI (nL + 1))) hX dB_tellLock_107 (nI_add nL 1) ?_
              refine g_put (ws1 := wB Z h q (sw (sw (sw (sw (sw (sw S 2 nL (mn x y)) 3 nL (mx x y)) 4 nL t) 5 nL c) 6 nL 0) 12 0 (nI (nL + 1)))) hX 0 rfl rfl 7 (by decide) uu_B tyF_B tyF_B_ok nmF_B q_49 rfl rfl rfl rfl rfl (Nat.le_of_ble_eq_true rfl) dB_tellLock_108 (fldB_S_12_0 Z h q (sw (sw (sw (sw (sw S 2 nL (mn x y)) 3 nL (mx x y)) 4 nL t) 5 nL c) 6 nL 0) (nI (nL + 1))) ?_
              refine g_iconst (v := 1) hX dB_tellLock_111 (by decide) ?_
              exact r_zret hX hQ (rfl) dB_tellLock_112 rfl (⟨by simp [okLock, c_4, c_11, c_16, c_22, c_28, c_37], congrArg (wB Z h q) ((if_pos (by simp [okLock, c_4, c_11, c_16, c_22, c_28, c_37])).trans (by rfl)).symm⟩)
            · refine g_iconst (v := 0) hX dB_tellLock_40 (by decide) ?_
              exact r_zret hX hQ (rfl) dB_tellLock_41 rfl (⟨by simp [okLock, c_4, c_11, c_16, c_22, c_28, c_37], congrArg (wB Z h q) (if_neg (by simp [okLock, c_4, c_11, c_16, c_22, c_28, c_37])).symm⟩)
      · refine g_iconst (v := 0) hX dB_tellLock_19 (by decide) ?_
        exact r_zret hX hQ (rfl) dB_tellLock_20 rfl (⟨by simp [okLock, c_4, c_11, c_16], congrArg (wB Z h q) (if_neg (by simp [okLock, c_4, c_11, c_16])).symm⟩)
set_option maxHeartbeats 4000000 in
set_option maxRecDepth 20000 in
theorem con_B_tellPerson (l : Launch) (Z : ZZ) (h : Nat) (q : Nat → Nat) (S : St) (k x f s : Int32) (nP : Nat) (hP : S 12 1 = nI nP) (hP5 : nP ≤ 5) : Con l Z yB_tellPerson cB_tellPerson 5 (some .boolean) 1 [.ref h, .int k, .int x, .int f, .int s] (wB Z h q S) (Fn (some (.int (okPerson nP k x f s))) (wB Z h q (tellPersonS S nP k x f s))) := by
  refine Con.of (by decide) (Nat.le_of_ble_eq_true rfl) (fun X hX hQ => ?_)
  show G X Z (wB Z h q S) 0 [(0, .ref h), (1, .int k), (2, .int x), (3, .int f), (4, .int s)] []
  refine g_iload_n hX dB_tellPerson_0 1 rfl ?_
  refine g_if_lt hX 21 dB_tellPerson_1 (by decide) (fun c_1 => ?_) (fun c_1 => ?_)
  · refine g_iconst (v := 0) hX dB_tellPerson_21 (by decide) ?_
    exact r_zret hX hQ (rfl) dB_tellPerson_22 rfl (⟨by simp [okPerson, c_1], congrArg (wB Z h q) (if_neg (by simp [okPerson, c_1])).symm⟩)
  · refine g_iload_n hX dB_tellPerson_4 2 rfl ?_
    refine g_callN hX (con_X_isPlace l Z x) msX_isPlace (fun U H hE => hE.1.2.2.1) rfl (by decide) rfl (Nat.le_of_ble_eq_true rfl) dB_tellPerson_5 [] rfl rfl (g_fn (ws1 := wB Z h q S) (st1 := [.int (isPlaceS x)]) rfl rfl ?_)
    refine g_if_eq hX 21 dB_tellPerson_8 (by decide) (fun c_8 => ?_) (fun c_8 => ?_)
    · refine g_iconst (v := 0) hX dB_tellPerson_21 (by decide) ?_
      exact r_zret hX hQ (rfl) dB_tellPerson_22 rfl (⟨by simp [okPerson, c_1, c_8], congrArg (wB Z h q) (if_neg (by simp [okPerson, c_1, c_8])).symm⟩)
    · refine g_iload_n hX dB_tellPerson_11 3 rfl ?_
      refine g_iconst (v := 1) hX dB_tellPerson_12 (by decide) ?_
      refine g_icmp_lt hX 21 dB_tellPerson_13 (by decide) (fun c_13 => ?_) (fun c_13 => ?_)
      · refine g_iconst (v := 0) hX dB_tellPerson_21 (by decide) ?_
        exact r_zret hX hQ (rfl) dB_tellPerson_22 rfl (⟨by simp [okPerson, c_1, c_8, c_13], congrArg (wB Z h q) (if_neg (by simp [okPerson, c_1, c_8, c_13])).symm⟩)
      · refine g_iload_n hX dB_tellPerson_16 3 rfl ?_
        refine g_iconst (v := 5) hX dB_tellPerson_17 (by decide) ?_
        refine g_icmp_le hX 23 dB_tellPerson_18 (by decide) (fun c_18 => ?_) (fun c_18 => ?_)
        · refine g_iload hX dB_tellPerson_23 4 rfl ?_
          refine g_if_lt hX 36 dB_tellPerson_25 (by decide) (fun c_25 => ?_) (fun c_25 => ?_)
          · refine g_iconst (v := 0) hX dB_tellPerson_36 (by decide) ?_
            exact r_zret hX hQ (rfl) dB_tellPerson_37 rfl (⟨by simp [okPerson, c_1, c_8, c_13, c_18, c_25], congrArg (wB Z h q) (if_neg (by simp [okPerson, c_1, c_8, c_13, c_18, c_25])).symm⟩)
          · refine g_aload_n hX dB_tellPerson_28 0 rfl ?_
            refine g_get hX 0 rfl rfl 12 (by decide) uu_B q_60 rfl rfl dB_tellPerson_29 ?_
            refine g_top (y := (nI nP)) (by first | exact hP | (simp [sw]; exact hP)) ?_
            refine g_iconst (v := 5) hX dB_tellPerson_32 (by decide) ?_
            refine g_icmp_lt hX 38 dB_tellPerson_33 (by decide) (fun c_33 => ?_) (fun c_33 => ?_)
            · have hl5 : nP < 5 := (nI_ltI (a := nP) (b := 5) (by omega) (by omega)).mp c_33
              refine g_aload_n hX dB_tellPerson_38 0 rfl ?_
              refine g_get hX 0 rfl rfl 8 (by decide) uu_B q_52 rfl rfl dB_tellPerson_39 ?_
              refine g_aload_n hX dB_tellPerson_42 0 rfl ?_
              refine g_get hX 0 rfl rfl 12 (by decide) uu_B q_60 rfl rfl dB_tellPerson_43 ?_
              refine g_top (y := (nI nP)) (by first | exact hP | (simp [sw]; exact hP)) ?_
              refine g_iload_n hX dB_tellPerson_46 1 rfl ?_
              refine g_ast (ws1 := wB Z h q (sw S 7 nP k)) hX 8 rfl nP (by omega) (by decide) (rfl) dB_tellPerson_47 (setB_S_7 Z h q S nP k) ?_
              refine g_aload_n hX dB_tellPerson_48 0 rfl ?_
              refine g_get hX 0 rfl rfl 9 (by decide) uu_B q_54 rfl rfl dB_tellPerson_49 ?_
              refine g_aload_n hX dB_tellPerson_52 0 rfl ?_
              refine g_get hX 0 rfl rfl 12 (by decide) uu_B q_60 rfl rfl dB_tellPerson_53 ?_
              refine g_top (y := (nI nP)) (by first | exact hP | (simp [sw]; exact hP)) ?_
              refine g_iload_n hX dB_tellPerson_56 2 rfl ?_
              refine g_ast (ws1 := wB Z h q (sw (sw S 7 nP k) 8 nP x)) hX 9 rfl nP (by omega) (by decide) (rfl) dB_tellPerson_57 (setB_S_8 Z h q (sw S 7 nP k) nP x) ?_
              refine g_aload_n hX dB_tellPerson_58 0 rfl ?_
              refine g_get hX 0 rfl rfl 10 (by decide) uu_B q_56 rfl rfl dB_tellPerson_59 ?_
              refine g_aload_n hX dB_tellPerson_62 0 rfl ?_
              refine g_get hX 0 rfl rfl 12 (by decide) uu_B q_60 rfl rfl dB_tellPerson_63 ?_
              refine g_top (y := (nI nP)) (by first | exact hP | (simp [sw]; exact hP)) ?_
              refine g_iload_n hX dB_tellPerson_66 3 rfl ?_
              refine g_ast (ws1 := wB Z h q (sw (sw (sw S 7 nP k) 8 nP x) 9 nP f)) hX 10 rfl nP (by omega) (by decide) (rfl) dB_tellPerson_67 (setB_S_9 Z h q (sw (sw S 7 nP k) 8 nP x) nP f) ?_
              refine g_aload_n hX dB_tellPerson_68 0 rfl ?_
              refine g_get hX 0 rfl rfl 11 (by decide) uu_B q_58 rfl rfl dB_tellPerson_69 ?_
              refine g_aload_n hX dB_tellPerson_72 0 rfl ?_
              refine g_get hX 0 rfl rfl 12 (by decide) uu_B q_60 rfl rfl dB_tellPerson_73 ?_
              refine g_top (y := (nI nP)) (by first | exact hP | (simp [sw]; exact hP)) ?_
              refine g_iload hX dB_tellPerson_76 4 rfl ?_
              refine g_ast (ws1 := wB Z h q (sw (sw (sw (sw S 7 nP k) 8 nP x) 9 nP f) 10 nP s)) hX 11 rfl nP (by omega) (by decide) (rfl) dB_tellPerson_78 (setB_S_10 Z h q (sw (sw (sw S 7 nP k) 8 nP x) 9 nP f) nP s) ?_
              refine g_aload_n hX dB_tellPerson_79 0 rfl ?_
              refine g_dup hX dB_tellPerson_80 rfl ?_
              refine g_get hX 0 rfl rfl 12 (by decide) uu_B q_60 rfl rfl dB_tellPerson_81 ?_
              refine g_top (y := (nI nP)) (by first | exact hP | (simp [sw]; exact hP)) ?_
              refine g_iconst (v := 1) hX dB_tellPerson_84 (by decide) ?_
              refine g_iadd (z := (nI (nP + 1))) hX dB_tellPerson_85 (nI_add nP 1) ?_
              refine g_put (ws1 := wB Z h q (sw (sw (sw (sw (sw S 7 nP k) 8 nP x) 9 nP f) 10 nP s) 12 1 (nI (nP + 1)))) hX 0 rfl rfl 12 (by decide) uu_B tyF_B tyF_B_ok nmF_B q_60 rfl rfl rfl rfl rfl (Nat.le_of_ble_eq_true rfl) dB_tellPerson_86 (fldB_S_12_1 Z h q (sw (sw (sw (sw S 7 nP k) 8 nP x) 9 nP f) 10 nP s) (nI (nP + 1))) ?_
              refine g_iconst (v := 1) hX dB_tellPerson_89 (by decide) ?_
              exact r_zret hX hQ (rfl) dB_tellPerson_90 rfl (⟨by simp [okPerson, c_1, c_8, c_13, c_18, c_25, c_33], congrArg (wB Z h q) ((if_pos (by simp [okPerson, c_1, c_8, c_13, c_18, c_25, c_33])).trans (by rfl)).symm⟩)
            · refine g_iconst (v := 0) hX dB_tellPerson_36 (by decide) ?_
              exact r_zret hX hQ (rfl) dB_tellPerson_37 rfl (⟨by simp [okPerson, c_1, c_8, c_13, c_18, c_25, c_33], congrArg (wB Z h q) (if_neg (by simp [okPerson, c_1, c_8, c_13, c_18, c_25, c_33])).symm⟩)
        · refine g_iconst (v := 0) hX dB_tellPerson_21 (by decide) ?_
          exact r_zret hX hQ (rfl) dB_tellPerson_22 rfl (⟨by simp [okPerson, c_1, c_8, c_13, c_18], congrArg (wB Z h q) (if_neg (by simp [okPerson, c_1, c_8, c_13, c_18])).symm⟩)
set_option maxHeartbeats 4000000 in
set_option maxRecDepth 20000 in
theorem con_B_tellSuits (l : Launch) (Z : ZZ) (h : Nat) (q : Nat → Nat) (S : St) (f v : Int32) : Con l Z yB_tellSuits cB_tellSuits 3 (some .boolean) 1 [.ref h, .int f, .int v] (wB Z h q S) (Fn (some (.int (okSuits f v))) (wB Z h q (tellSuitsS S f v))) := by
  refine Con.of (by decide) (Nat.le_of_ble_eq_true rfl) (fun X hX hQ => ?_)
  show G X Z (wB Z h q S) 0 [(0, .ref h), (1, .int f), (2, .int v)] []
  refine g_iload_n hX dB_tellSuits_0 1 rfl ?_
  refine g_iconst (v := 1) hX dB_tellSuits_1 (by decide) ?_
  refine g_icmp_lt hX 19 dB_tellSuits_2 (by decide) (fun c_2 => ?_) (fun c_2 => ?_)
  · refine g_iconst (v := 0) hX dB_tellSuits_19 (by decide) ?_
    exact r_zret hX hQ (rfl) dB_tellSuits_20 rfl (⟨by simp [okSuits, c_2], congrArg (wB Z h q) (if_neg (by simp [okSuits, c_2])).symm⟩)
  · refine g_iload_n hX dB_tellSuits_5 1 rfl ?_
    refine g_iconst (v := 5) hX dB_tellSuits_6 (by decide) ?_
    refine g_icmp_gt hX 19 dB_tellSuits_7 (by decide) (fun c_7 => ?_) (fun c_7 => ?_)
    · refine g_iconst (v := 0) hX dB_tellSuits_19 (by decide) ?_
      exact r_zret hX hQ (rfl) dB_tellSuits_20 rfl (⟨by simp [okSuits, c_2, c_7], congrArg (wB Z h q) (if_neg (by simp [okSuits, c_2, c_7])).symm⟩)
    · refine g_iload_n hX dB_tellSuits_10 2 rfl ?_
      refine g_if_lt hX 19 dB_tellSuits_11 (by decide) (fun c_11 => ?_) (fun c_11 => ?_)
      · refine g_iconst (v := 0) hX dB_tellSuits_19 (by decide) ?_
        exact r_zret hX hQ (rfl) dB_tellSuits_20 rfl (⟨by simp [okSuits, c_2, c_7, c_11], congrArg (wB Z h q) (if_neg (by simp [okSuits, c_2, c_7, c_11])).symm⟩)
      · refine g_iload_n hX dB_tellSuits_14 2 rfl ?_
        refine g_iconst (v := 5) hX dB_tellSuits_15 (by decide) ?_
        refine g_icmp_le hX 21 dB_tellSuits_16 (by decide) (fun c_16 => ?_) (fun c_16 => ?_)
        · obtain ⟨j, hj1, hj5, rfl⟩ := fit_of c_2 c_7
          refine g_aload_n hX dB_tellSuits_21 0 rfl ?_
          refine g_get hX 0 rfl rfl 13 (by decide) uu_B q_62 rfl rfl dB_tellSuits_22 ?_
          refine g_iload_n hX dB_tellSuits_25 1 rfl ?_
          refine g_iload_n hX dB_tellSuits_26 2 rfl ?_
          refine g_ast (ws1 := wB Z h q (sw S 11 j v)) hX 12 rfl j (by omega) (by decide) (rfl) dB_tellSuits_27 (setB_S_11 Z h q S j v) ?_
          refine g_iconst (v := 1) hX dB_tellSuits_28 (by decide) ?_
          exact r_zret hX hQ (rfl) dB_tellSuits_29 rfl (⟨by simp [okSuits, c_2, c_7, c_11, c_16], congrArg (wB Z h q) ((if_pos (by simp [okSuits, c_2, c_7, c_11, c_16])).trans (by rw [show cl (nI j) = j from nI_clamp (by omega)])).symm⟩)
        · refine g_iconst (v := 0) hX dB_tellSuits_19 (by decide) ?_
          exact r_zret hX hQ (rfl) dB_tellSuits_20 rfl (⟨by simp [okSuits, c_2, c_7, c_11, c_16], congrArg (wB Z h q) (if_neg (by simp [okSuits, c_2, c_7, c_11, c_16])).symm⟩)
set_option maxHeartbeats 4000000 in
set_option maxRecDepth 20000 in
theorem con_B_peopleOfFit (l : Launch) (Z : ZZ) (h : Nat) (q : Nat → Nat) (S : St) (f b : Int32) (nP : Nat) (hP : S 12 1 = nI nP) (hP5 : nP ≤ 5) : Con l Z yB_peopleOfFit cB_peopleOfFit 5 (some .int) 0 [.ref h, .int f, .int b] (wB Z h q S) (Fn (some (.int (pof S f b nP))) (wB Z h q S)) := by
  refine Con.of (by decide) (Nat.le_of_ble_eq_true rfl) (fun X hX hQ => ?_)
  show G X Z (wB Z h q S) 0 [(0, .ref h), (1, .int f), (2, .int b)] []
  refine g_iconst (v := 0) hX dB_peopleOfFit_0 (by decide) ?_
  refine g_istore_n (lv1 := [(0, .ref h), (1, .int f), (2, .int b), (3, .int 0)]) hX dB_peopleOfFit_1 (by decide) [1, 2, 3, 0] rfl ?_
  refine g_iconst (v := 0) hX dB_peopleOfFit_2 (by decide) ?_
  refine g_istore (lv1 := [(0, .ref h), (1, .int f), (2, .int b), (3, .int 0), (4, .int 0)]) hX dB_peopleOfFit_3 (by decide) [1, 2, 3, 4, 0] rfl ?_
  have hL_5 : ∀ i, i ≤ nP → G X Z (wB Z h q S) 5 [(0, .ref h), (1, .int f), (2, .int b), (3, .int (pof S f b i)), (4, .int (nI i))] [] := by
    refine loopUp _ nP ?_ (fun i hi_i ih_i => ?_)
    · skip
      refine g_iload hX dB_peopleOfFit_5 4 rfl ?_
      refine g_aload_n hX dB_peopleOfFit_7 0 rfl ?_
      refine g_get hX 0 rfl rfl 12 (by decide) uu_B q_60 rfl rfl dB_peopleOfFit_8 ?_
      refine g_top (y := (nI nP)) (hP) ?_
      refine g_icmp_ge hX 43 dB_peopleOfFit_11 (by decide) (fun c_11 => ?_) (fun c_11 => absurd (nI_le (a := nP) (b := nP) (Nat.le_refl _) (by omega)) c_11)
      refine g_iload_n hX dB_peopleOfFit_43 3 rfl ?_
      exact r_iret hX hQ dB_peopleOfFit_44 rfl (⟨rfl, rfl⟩)
    · skip
      refine g_iload hX dB_peopleOfFit_5 4 rfl ?_
      refine g_aload_n hX dB_peopleOfFit_7 0 rfl ?_
      refine g_get hX 0 rfl rfl 12 (by decide) uu_B q_60 rfl rfl dB_peopleOfFit_8 ?_
      refine g_top (y := (nI nP)) (hP) ?_
      refine g_icmp_ge hX 43 dB_peopleOfFit_11 (by decide) (fun c_11 => absurd c_11 (nI_ge (a := i) (b := nP) hi_i (by omega))) (fun c_11 => ?_)
      refine g_aload_n hX dB_peopleOfFit_14 0 rfl ?_
      refine g_get hX 0 rfl rfl 10 (by decide) uu_B q_56 rfl rfl dB_peopleOfFit_15 ?_
      refine g_iload hX dB_peopleOfFit_18 4 rfl ?_
      refine g_ald (v := (S 9 i)) hX 10 rfl i (by omega) (by decide) (rfl) (rfl) dB_peopleOfFit_20 ?_
      refine g_iload_n hX dB_peopleOfFit_21 1 rfl ?_
      refine g_icmp_ne hX 37 dB_peopleOfFit_22 (by decide) (fun c_22 => ?_) (fun c_22 => ?_)
      · refine g_iinc (v := (nI (i + 1))) (lv1 := [(0, .ref h), (1, .int f), (2, .int b), (3, .int (pof S f b i)), (4, .int (nI (i + 1)))]) hX dB_peopleOfFit_37 4 rfl (inc_nat _) (by decide) [1, 2, 3, 4, 0] rfl ?_
        refine g_goto hX 5 dB_peopleOfFit_40 (by decide) ?_
        have e_3 : (pof S f b i) = (pof S f b (i + 1)) := by simp [pof, c_11, c_22]
        exact g_eq (rfl) (by rw [e_3]) rfl ih_i
      · refine g_iload_n hX dB_peopleOfFit_25 2 rfl ?_
        refine g_iload hX dB_peopleOfFit_26 4 rfl ?_
        refine g_ishr (z := (b >>> ((nI i) &&& 31))) hX dB_peopleOfFit_28 (rfl) ?_
        refine g_iconst (v := 1) hX dB_peopleOfFit_29 (by decide) ?_
        refine g_iand (z := ((b >>> ((nI i) &&& 31)) &&& 1)) hX dB_peopleOfFit_30 (rfl) ?_
        refine g_if_ne hX 37 dB_peopleOfFit_31 (by decide) (fun c_31 => ?_) (fun c_31 => ?_)
        · refine g_iinc (v := (nI (i + 1))) (lv1 := [(0, .ref h), (1, .int f), (2, .int b), (3, .int (pof S f b i)), (4, .int (nI (i + 1)))]) hX dB_peopleOfFit_37 4 rfl (inc_nat _) (by decide) [1, 2, 3, 4, 0] rfl ?_
          refine g_goto hX 5 dB_peopleOfFit_40 (by decide) ?_
          have e_3 : (pof S f b i) = (pof S f b (i + 1)) := by simp [pof, c_11, c_22, c_31]
          exact g_eq (rfl) (by rw [e_3]) rfl ih_i
        · refine g_iinc (v := ((pof S f b i) + 1)) (lv1 := [(0, .ref h), (1, .int f), (2, .int b), (3, .int ((pof S f b i) + 1)), (4, .int (nI i))]) hX dB_peopleOfFit_34 3 rfl (inc_raw _) (by decide) [1, 2, 3, 0, 4] rfl ?_
          refine g_iinc (v := (nI (i + 1))) (lv1 := [(0, .ref h), (1, .int f), (2, .int b), (3, .int ((pof S f b i) + 1)), (4, .int (nI (i + 1)))]) hX dB_peopleOfFit_37 4 rfl (inc_nat _) (by decide) [1, 2, 3, 4, 0] rfl ?_
          refine g_goto hX 5 dB_peopleOfFit_40 (by decide) ?_
          have e_3 : ((pof S f b i) + 1) = (pof S f b (i + 1)) := by simp [pof, c_11, c_22, c_31]
          exact g_eq (rfl) (by rw [e_3]) rfl ih_i
  exact hL_5 0 (Nat.zero_le _)
set_option maxHeartbeats 4000000 in
set_option maxRecDepth 20000 in
theorem con_B_suitsAreEnoughBut (l : Launch) (Z : ZZ) (h : Nat) (q : Nat → Nat) (S : St) (b : Int32) (nP : Nat) (hP : S 12 1 = nI nP) (hP5 : nP ≤ 5) : Con l Z yB_suitsAreEnoughBut cB_suitsAreEnoughBut 5 (some .boolean) 1 [.ref h, .int b] (wB Z h q S) (Fn (some (.int (enough S nP b))) (wB Z h q S)) := by
  refine Con.of (by decide) (Nat.le_of_ble_eq_true rfl) (fun X hX hQ => ?_)
  show G X Z (wB Z h q S) 0 [(0, .ref h), (1, .int b)] []
  refine g_iconst (v := 0) hX dB_suitsAreEnoughBut_0 (by decide) ?_
  refine g_istore_n (lv1 := [(0, .ref h), (1, .int b), (2, .int 0)]) hX dB_suitsAreEnoughBut_1 (by decide) [1, 2, 0] rfl ?_
  refine g_iconst (v := 1) hX dB_suitsAreEnoughBut_2 (by decide) ?_
  refine g_istore_n (lv1 := [(0, .ref h), (1, .int b), (2, .int 0), (3, .int 1)]) hX dB_suitsAreEnoughBut_3 (by decide) [1, 2, 3, 0] rfl ?_
  have hL_4 : ∀ i, i ≤ 6 → ∀ (x : Int32), enL S nP b (6 - i) i x = enough S nP b → G X Z (wB Z h q S) 4 [(0, .ref h), (1, .int b), (2, .int x), (3, .int (nI i))] [] := by
    refine loopUp _ 6 ?_ (fun i hi_i ih_i => ?_)
    · intro x hq_i
      refine g_iload_n hX dB_suitsAreEnoughBut_4 3 rfl ?_
      refine g_iconst (v := 5) hX dB_suitsAreEnoughBut_5 (by decide) ?_
      refine g_icmp_gt hX 46 dB_suitsAreEnoughBut_6 (by decide) (fun c_6 => ?_) (fun c_6 => absurd (by decide) c_6)
      refine g_iload_n hX dB_suitsAreEnoughBut_46 2 rfl ?_
      refine g_if_ne hX 54 dB_suitsAreEnoughBut_47 (by decide) (fun c_47 => ?_) (fun c_47 => ?_)
      · refine g_iconst (v := 0) hX dB_suitsAreEnoughBut_54 (by decide) ?_
        exact r_zret hX hQ (rfl) dB_suitsAreEnoughBut_55 rfl (⟨by rw [← hq_i]; simp [enL, one0, c_47], rfl⟩)
      · refine g_iconst (v := 1) hX dB_suitsAreEnoughBut_50 (by decide) ?_
        refine g_goto hX 55 dB_suitsAreEnoughBut_51 (by decide) ?_
        exact r_zret hX hQ (rfl) dB_suitsAreEnoughBut_55 rfl (⟨by rw [← hq_i]; simp [enL, one0, c_47], rfl⟩)
    · intro x hq_i
      refine g_iload_n hX dB_suitsAreEnoughBut_4 3 rfl ?_
      refine g_iconst (v := 5) hX dB_suitsAreEnoughBut_5 (by decide) ?_
      refine g_icmp_gt hX 46 dB_suitsAreEnoughBut_6 (by decide) (fun c_6 => absurd c_6 (nI_nlt (a := 5) (b := i) (by omega) (by omega))) (fun c_6 => ?_)
      refine g_aload_n hX dB_suitsAreEnoughBut_9 0 rfl ?_
      refine g_get hX 0 rfl rfl 13 (by decide) uu_B q_62 rfl rfl dB_suitsAreEnoughBut_10 ?_
      refine g_iload_n hX dB_suitsAreEnoughBut_13 3 rfl ?_
      refine g_ald (v := (S 11 i)) hX 12 rfl i (by omega) (by decide) (rfl) (rfl) dB_suitsAreEnoughBut_14 ?_
      refine g_iload_n hX dB_suitsAreEnoughBut_15 2 rfl ?_
      refine g_isub (z := ((S 11 i) - x)) hX dB_suitsAreEnoughBut_16 (rfl) ?_
      refine g_istore (lv1 := [(0, .ref h), (1, .int b), (2, .int x), (3, .int (nI i)), (4, .int ((S 11 i) - x))]) hX dB_suitsAreEnoughBut_17 (by decide) [1, 2, 3, 4, 0] rfl ?_
      refine g_iload hX dB_suitsAreEnoughBut_19 4 rfl ?_
      refine g_if_ge hX 26 dB_suitsAreEnoughBut_21 (by decide) (fun c_21 => ?_) (fun c_21 => ?_)
      · refine g_iconst (v := 0) hX dB_suitsAreEnoughBut_26 (by decide) ?_
        refine g_aload_n hX dB_suitsAreEnoughBut_27 0 rfl ?_
        refine g_iload_n hX dB_suitsAreEnoughBut_28 3 rfl ?_
        refine g_iload_n hX dB_suitsAreEnoughBut_29 1 rfl ?_
        refine g_callV hX (con_B_peopleOfFit l Z h q S (nI i) b nP hP hP5) mvB_peopleOfFit q_493 rfl (by decide) 0 rfl rfl rfl (Nat.le_of_ble_eq_true rfl) dB_suitsAreEnoughBut_30 [0, 1, 2, 3, 4, 5, 6, 7, 8, 9, 10, 11, 12] rfl rfl (g_fn (ws1 := wB Z h q S) (st1 := [.int (pof S (nI i) b nP), .int 0]) rfl rfl ?_)
        refine g_iload hX dB_suitsAreEnoughBut_33 4 rfl ?_
        refine g_isub (z := ((pof S (nI i) b nP) - ((S 11 i) - x))) hX dB_suitsAreEnoughBut_35 (rfl) ?_
        refine g_mmax (z := (mx 0 ((pof S (nI i) b nP) - ((S 11 i) - x)))) hX q_300 q_301 q_12 q_302 dB_suitsAreEnoughBut_36 (by decide) (Nat.le_of_ble_eq_true rfl) (rfl) ?_
        refine g_istore_n (lv1 := [(0, .ref h), (1, .int b), (2, .int (mx 0 ((pof S (nI i) b nP) - ((S 11 i) - x)))), (3, .int (nI i)), (4, .int ((S 11 i) - x))]) hX dB_suitsAreEnoughBut_39 (by decide) [1, 2, 0, 3, 4] rfl ?_
        refine g_iinc (v := (nI (i + 1))) (lv1 := [(0, .ref h), (1, .int b), (2, .int (mx 0 ((pof S (nI i) b nP) - ((S 11 i) - x)))), (3, .int (nI (i + 1))), (4, .int ((S 11 i) - x))]) hX dB_suitsAreEnoughBut_40 3 rfl (inc_nat _) (by decide) [1, 2, 3, 0, 4] rfl ?_
        refine g_goto hX 4 dB_suitsAreEnoughBut_43 (by decide) ?_
        refine g_lv (lv1 := [(0, .ref h), (1, .int b), (2, .int (mx 0 ((pof S (nI i) b nP) - ((S 11 i) - x)))), (3, .int (nI (i + 1)))]) [0, 1, 2, 3] rfl ?_
        exact ih_i (mx 0 ((pof S (nI i) b nP) - ((S 11 i) - x))) (by rw [← hq_i, show 6 - i = (6 - (i + 1)) + 1 by omega, enL, if_pos c_21])
      · refine g_iconst (v := 0) hX dB_suitsAreEnoughBut_24 (by decide) ?_
        exact r_zret hX hQ (rfl) dB_suitsAreEnoughBut_25 rfl (⟨by rw [← hq_i, show 6 - i = (6 - (i + 1)) + 1 by omega, enL, if_neg c_21], rfl⟩)
  exact hL_4 1 (by omega) 0 (rfl)
set_option maxHeartbeats 4000000 in
set_option maxRecDepth 20000 in
theorem con_JI_bitCount (l : Launch) (Z : ZZ) (j : Nat) (hj : j < 32) : Con l Z yJI_bitCount cJI_bitCount 1 (some .int) 0 [.int (nI j)] ([]) (Fn (some (.int (nI (pc5 j)))) ([])) := by
  refine Con.of (by decide) (Nat.le_of_ble_eq_true rfl) (fun X hX hQ => ?_)
  show G X Z ([]) 0 [(0, .int (nI j))] []
  refine g_iload_n hX dJI_bitCount_0 0 rfl ?_
  refine g_iload_n hX dJI_bitCount_1 0 rfl ?_
  refine g_iconst (v := 1) hX dJI_bitCount_2 (by decide) ?_
  refine g_iushr (z := (((nI j) : Int32).toUInt32 >>> ((1 : Int32).toUInt32 &&& Int32.toUInt32 31)).toInt32) hX dJI_bitCount_3 (rfl) ?_
  refine g_ldcw hX dJI_bitCount_4 q_486 ?_
  refine g_iand (z := (((((nI j) : Int32).toUInt32 >>> ((1 : Int32).toUInt32 &&& Int32.toUInt32 31)).toInt32) &&& 1431655765)) hX dJI_bitCount_7 (rfl) ?_
  refine g_isub (z := ((nI j) - (((((nI j) : Int32).toUInt32 >>> ((1 : Int32).toUInt32 &&& Int32.toUInt32 31)).toInt32) &&& 1431655765))) hX dJI_bitCount_8 (rfl) ?_
  refine g_nam (fun x1 e_x1 => ?_)
  refine g_istore_n (lv1 := [(0, .int x1)]) hX dJI_bitCount_9 (by decide) [0] rfl ?_
  refine g_iload_n hX dJI_bitCount_10 0 rfl ?_
  refine g_ldcw hX dJI_bitCount_11 q_487 ?_
  refine g_iand (z := (x1 &&& 858993459)) hX dJI_bitCount_14 (rfl) ?_
  refine g_iload_n hX dJI_bitCount_15 0 rfl ?_
  refine g_iconst (v := 2) hX dJI_bitCount_16 (by decide) ?_
  refine g_iushr (z := ((x1 : Int32).toUInt32 >>> ((2 : Int32).toUInt32 &&& Int32.toUInt32 31)).toInt32) hX dJI_bitCount_17 (rfl) ?_
  refine g_ldcw hX dJI_bitCount_18 q_487 ?_
  refine g_iand (z := ((((x1 : Int32).toUInt32 >>> ((2 : Int32).toUInt32 &&& Int32.toUInt32 31)).toInt32) &&& 858993459)) hX dJI_bitCount_21 (rfl) ?_
  refine g_iadd (z := ((x1 &&& 858993459) + ((((x1 : Int32).toUInt32 >>> ((2 : Int32).toUInt32 &&& Int32.toUInt32 31)).toInt32) &&& 858993459))) hX dJI_bitCount_22 (rfl) ?_
  refine g_nam (fun x2 e_x2 => ?_)
  refine g_istore_n (lv1 := [(0, .int x2)]) hX dJI_bitCount_23 (by decide) [0] rfl ?_
  refine g_iload_n hX dJI_bitCount_24 0 rfl ?_
  refine g_iload_n hX dJI_bitCount_25 0 rfl ?_
  refine g_iconst (v := 4) hX dJI_bitCount_26 (by decide) ?_
  refine g_iushr (z := ((x2 : Int32).toUInt32 >>> ((4 : Int32).toUInt32 &&& Int32.toUInt32 31)).toInt32) hX dJI_bitCount_27 (rfl) ?_
  refine g_iadd (z := (x2 + (((x2 : Int32).toUInt32 >>> ((4 : Int32).toUInt32 &&& Int32.toUInt32 31)).toInt32))) hX dJI_bitCount_28 (rfl) ?_
  refine g_ldcw hX dJI_bitCount_29 q_488 ?_
  refine g_iand (z := ((x2 + (((x2 : Int32).toUInt32 >>> ((4 : Int32).toUInt32 &&& Int32.toUInt32 31)).toInt32)) &&& 252645135)) hX dJI_bitCount_32 (rfl) ?_
  refine g_nam (fun x3 e_x3 => ?_)
  refine g_istore_n (lv1 := [(0, .int x3)]) hX dJI_bitCount_33 (by decide) [0] rfl ?_
  refine g_iload_n hX dJI_bitCount_34 0 rfl ?_
  refine g_iload_n hX dJI_bitCount_35 0 rfl ?_
  refine g_bipush (v := 8) hX dJI_bitCount_36 (by decide) ?_
  refine g_iushr (z := ((x3 : Int32).toUInt32 >>> ((8 : Int32).toUInt32 &&& Int32.toUInt32 31)).toInt32) hX dJI_bitCount_38 (rfl) ?_
  refine g_iadd (z := (x3 + (((x3 : Int32).toUInt32 >>> ((8 : Int32).toUInt32 &&& Int32.toUInt32 31)).toInt32))) hX dJI_bitCount_39 (rfl) ?_
  refine g_nam (fun x4 e_x4 => ?_)
  refine g_istore_n (lv1 := [(0, .int x4)]) hX dJI_bitCount_40 (by decide) [0] rfl ?_
  refine g_iload_n hX dJI_bitCount_41 0 rfl ?_
  refine g_iload_n hX dJI_bitCount_42 0 rfl ?_
  refine g_bipush (v := 16) hX dJI_bitCount_43 (by decide) ?_
  refine g_iushr (z := ((x4 : Int32).toUInt32 >>> ((16 : Int32).toUInt32 &&& Int32.toUInt32 31)).toInt32) hX dJI_bitCount_45 (rfl) ?_
  refine g_iadd (z := (x4 + (((x4 : Int32).toUInt32 >>> ((16 : Int32).toUInt32 &&& Int32.toUInt32 31)).toInt32))) hX dJI_bitCount_46 (rfl) ?_
  refine g_nam (fun x5 e_x5 => ?_)
  refine g_istore_n (lv1 := [(0, .int x5)]) hX dJI_bitCount_47 (by decide) [0] rfl ?_
  refine g_iload_n hX dJI_bitCount_48 0 rfl ?_
  refine g_bipush (v := 63) hX dJI_bitCount_49 (by decide) ?_
  refine g_iand (z := (x5 &&& 63)) hX dJI_bitCount_51 (rfl) ?_
  exact r_iret hX hQ dJI_bitCount_52 rfl (⟨congrArg some (congrArg Value.int (bc_end e_x1 e_x2 e_x3 e_x4 e_x5 hj)), rfl⟩)
set_option maxHeartbeats 4000000 in
set_option maxRecDepth 20000 in
theorem con_B_leastBare (l : Launch) (Z : ZZ) (h : Nat) (q : Nat → Nat) (S : St) (nP : Nat) (hP : S 12 1 = nI nP) (hP5 : nP ≤ 5) : Con l Z yB_leastBare cB_leastBare 4 (some .int) 2 [.ref h] (wB Z h q S) (Fn (some (.int (nI (leastBareS S nP)))) (wB Z h q S)) := by
  refine Con.of (by decide) (Nat.le_of_ble_eq_true rfl) (fun X hX hQ => ?_)
  show G X Z (wB Z h q S) 0 [(0, .ref h)] []
  refine g_iconst (v := 1) hX dB_leastBare_0 (by decide) ?_
  refine g_aload_n hX dB_leastBare_1 0 rfl ?_
  refine g_get hX 0 rfl rfl 12 (by decide) uu_B q_60 rfl rfl dB_leastBare_2 ?_
  refine g_top (y := (nI nP)) (hP) ?_
  refine g_ishl (z := ((1 : Int32) <<< (nI nP &&& 31))) hX dB_leastBare_5 (rfl) ?_
  refine g_iconst (v := 1) hX dB_leastBare_6 (by decide) ?_
  refine g_isub (z := (nI (2 ^ nP - 1))) hX dB_leastBare_7 (shl_small nP hP5) ?_
  refine g_istore_n (lv1 := [(0, .ref h), (1, .int (nI (2 ^ nP - 1)))]) hX dB_leastBare_8 (by decide) [1, 0] rfl ?_
  refine g_iload_n hX dB_leastBare_9 1 rfl ?_
  refine g_istore_n (lv1 := [(0, .ref h), (1, .int (nI (2 ^ nP - 1))), (2, .int (nI (2 ^ nP - 1)))]) hX dB_leastBare_10 (by decide) [1, 2, 0] rfl ?_
  refine g_iconst (v := 0) hX dB_leastBare_11 (by decide) ?_
  refine g_istore_n (lv1 := [(0, .ref h), (1, .int (nI (2 ^ nP - 1))), (2, .int (nI (2 ^ nP - 1))), (3, .int 0)]) hX dB_leastBare_12 (by decide) [1, 2, 3, 0] rfl ?_
  have hL_13 : ∀ i, i ≤ 2 ^ nP - 1 → G X Z (wB Z h q S) 13 [(0, .ref h), (1, .int (nI (2 ^ nP - 1))), (2, .int (nI (lbS S nP (2 ^ nP - 1) i))), (3, .int (nI i))] [] := by
    refine loopUp _ (2 ^ nP - 1) ?_ (fun i hi_i ih_i => ?_)
    · skip
      refine g_iload_n hX dB_leastBare_13 3 rfl ?_
      refine g_iload_n hX dB_leastBare_14 1 rfl ?_
      refine g_icmp_ge hX 45 dB_leastBare_15 (by decide) (fun c_15 => ?_) (fun c_15 => absurd (nI_le (a := 2 ^ nP - 1) (b := 2 ^ nP - 1) (Nat.le_refl _) (by have := all_lt nP hP5; omega)) c_15)
      refine g_iload_n hX dB_leastBare_45 2 rfl ?_
      exact r_iret hX hQ dB_leastBare_46 rfl (⟨rfl, rfl⟩)
    · skip
      refine g_iload_n hX dB_leastBare_13 3 rfl ?_
      refine g_iload_n hX dB_leastBare_14 1 rfl ?_
      refine g_icmp_ge hX 45 dB_leastBare_15 (by decide) (fun c_15 => absurd c_15 (nI_ge (a := i) (b := 2 ^ nP - 1) hi_i (by have := all_lt nP hP5; omega))) (fun c_15 => ?_)
      refine g_iload_n hX dB_leastBare_18 3 rfl ?_
      refine g_callS hX (con_JI_bitCount l Z i (by have := all_lt nP hP5; omega)) msJI_bitCount q_483 rfl (by decide) rfl (Nat.le_of_ble_eq_true rfl) dB_leastBare_19 [] rfl rfl (g_fn (ws1 := wB Z h q S) (st1 := [.int (nI (pc5 i))]) rfl rfl ?_)
      refine g_iload_n hX dB_leastBare_22 2 rfl ?_
      refine g_callS hX (con_JI_bitCount l Z (lbS S nP (2 ^ nP - 1) i) (lbS_le S nP _ (all_lt nP hP5) i (by omega))) msJI_bitCount q_483 rfl (by decide) rfl (Nat.le_of_ble_eq_true rfl) dB_leastBare_23 [] rfl rfl (g_fn (ws1 := wB Z h q S) (st1 := [.int (nI (pc5 (lbS S nP (2 ^ nP - 1) i))), .int (nI (pc5 i))]) rfl rfl ?_)
      refine g_icmp_ge hX 39 dB_leastBare_26 (by decide) (fun c_26 => ?_) (fun c_26 => ?_)
      · refine g_iinc (v := (nI (i + 1))) (lv1 := [(0, .ref h), (1, .int (nI (2 ^ nP - 1))), (2, .int (nI (lbS S nP (2 ^ nP - 1) i))), (3, .int (nI (i + 1)))]) hX dB_leastBare_39 3 rfl (inc_nat _) (by decide) [1, 2, 3, 0] rfl ?_
        refine g_goto hX 13 dB_leastBare_42 (by decide) ?_
        have e_2 : (nI (lbS S nP (2 ^ nP - 1) i)) = (nI (lbS S nP (2 ^ nP - 1) (i + 1))) := by exact lb_no c_26
        exact g_eq (rfl) (by rw [e_2]) rfl ih_i
      · refine g_aload_n hX dB_leastBare_29 0 rfl ?_
        refine g_iload_n hX dB_leastBare_30 3 rfl ?_
        refine g_callV hX (con_B_suitsAreEnoughBut l Z h q S (nI i) nP hP hP5) mvB_suitsAreEnoughBut q_489 rfl (by decide) 0 rfl rfl rfl (Nat.le_of_ble_eq_true rfl) dB_leastBare_31 [0, 1, 2, 3, 4, 5, 6, 7, 8, 9, 10, 11, 12] rfl rfl (g_fn (ws1 := wB Z h q S) (st1 := [.int (enough S nP (nI i))]) rfl rfl ?_)
        refine g_if_eq hX 39 dB_leastBare_34 (by decide) (fun c_34 => ?_) (fun c_34 => ?_)
        · refine g_iinc (v := (nI (i + 1))) (lv1 := [(0, .ref h), (1, .int (nI (2 ^ nP - 1))), (2, .int (nI (lbS S nP (2 ^ nP - 1) i))), (3, .int (nI (i + 1)))]) hX dB_leastBare_39 3 rfl (inc_nat _) (by decide) [1, 2, 3, 0] rfl ?_
          refine g_goto hX 13 dB_leastBare_42 (by decide) ?_
          have e_2 : (nI (lbS S nP (2 ^ nP - 1) i)) = (nI (lbS S nP (2 ^ nP - 1) (i + 1))) := by exact lb_no2 c_34
          exact g_eq (rfl) (by rw [e_2]) rfl ih_i
        · refine g_iload_n hX dB_leastBare_37 3 rfl ?_
          refine g_istore_n (lv1 := [(0, .ref h), (1, .int (nI (2 ^ nP - 1))), (2, .int (nI i)), (3, .int (nI i))]) hX dB_leastBare_38 (by decide) [1, 2, 0, 3] rfl ?_
          refine g_iinc (v := (nI (i + 1))) (lv1 := [(0, .ref h), (1, .int (nI (2 ^ nP - 1))), (2, .int (nI i)), (3, .int (nI (i + 1)))]) hX dB_leastBare_39 3 rfl (inc_nat _) (by decide) [1, 2, 3, 0] rfl ?_
          refine g_goto hX 13 dB_leastBare_42 (by decide) ?_
          have e_2 : (nI i) = (nI (lbS S nP (2 ^ nP - 1) (i + 1))) := by exact lb_yes c_26 c_34
          exact g_eq (rfl) (by rw [e_2]) rfl ih_i
  exact hL_13 0 (Nat.zero_le _)

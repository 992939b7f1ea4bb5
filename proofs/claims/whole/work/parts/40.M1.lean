/-! the Model: leaves -/
theorem keysM {Z : ZZ} {h : Nat} {q : Nat → Nat} {S S' : St} : (wM Z h q S).map (·.1) = (wM Z h q S').map (·.1) := rfl
def wthS (v lo hi : Int32) : Int32 := if v < lo then 0 else if hi < v then 0 else 1
def hasS (b i : Int32) : Int32 := if ¬ ((b >>> (i &&& 31)) &&& 1) = 1 then 0 else 1
theorem wth_room (x : Int32) : wthS x 0 5 = isRoomS x := by
  unfold wthS isRoomS
  by_cases h : x < 0
  · rw [if_pos h, if_pos h]
  · rw [if_neg h, if_neg h]
    by_cases h2 : 5 < x
    · rw [if_pos h2, if_pos]
      rw [Int32.lt_iff_toInt_lt] at h2
      rw [Int32.le_iff_toInt_le]
      have e5 : (5 : Int32).toInt = 5 := by decide
      have e6 : (6 : Int32).toInt = 6 := by decide
      omega
    · rw [if_neg h2, if_neg]
      rw [Int32.lt_iff_toInt_lt] at h2
      rw [Int32.le_iff_toInt_le]
      have e5 : (5 : Int32).toInt = 5 := by decide
      have e6 : (6 : Int32).toInt = 6 := by decide
      omega
theorem wth_place (x : Int32) : wthS x 0 6 = isPlaceS x := by
  unfold wthS isPlaceS
  by_cases h : x < 0
  · rw [if_pos h, if_pos h]
  · rw [if_neg h, if_neg h]
    by_cases h2 : 6 < x
    · rw [if_pos h2, if_pos]
      rw [Int32.lt_iff_toInt_lt] at h2
      rw [Int32.le_iff_toInt_le]
      have e5 : (6 : Int32).toInt = 6 := by decide
      have e6 : (7 : Int32).toInt = 7 := by decide
      omega
    · rw [if_neg h2, if_neg]
      rw [Int32.lt_iff_toInt_lt] at h2
      rw [Int32.le_iff_toInt_le]
      have e5 : (6 : Int32).toInt = 6 := by decide
      have e6 : (7 : Int32).toInt = 7 := by decide
      omega
theorem wth_n {x : Int32} {n : Nat} (hn : n < 100) : wthS x 0 (nI n - 1) = if x < 0 then 0 else if nI n ≤ x then 0 else 1 := by
  unfold wthS
  by_cases h : x < 0
  · rw [if_pos h, if_pos h]
  · rw [if_neg h, if_neg h]
    have e1 : (nI n - 1).toInt = (n : Int) - 1 := pk_sub_toInt (a := n) (b := 1) (by omega) (by omega)
    have e2 := nI_toInt (n := n) (by omega)
    by_cases h2 : nI n - 1 < x
    · rw [if_pos h2, if_pos]
      rw [Int32.lt_iff_toInt_lt] at h2
      rw [Int32.le_iff_toInt_le]
      omega
    · rw [if_neg h2, if_neg]
      rw [Int32.lt_iff_toInt_lt] at h2
      rw [Int32.le_iff_toInt_le]
      omega
def nob (S : St) (k : Nat) : St := sw S 16 k (S 16 k + 1)
def mb (S : St) (nP p : Nat) : Int32 := if ¬ S 8 p = 6 then (if S 7 p = 1 then 1 else if S 7 p = 2 then 4 else if S 7 p = 3 then 3 else if S 7 p = 4 then 0 else if S 7 p = 5 then (if ¬ cnt (S 8) (S 8 p) nP = 1 then 1 else 0) else 2) else 0
def mbs (S : St) (nP : Nat) (r : Int32) : Nat → Int32
  | 0 => 0
  | n + 1 => if ¬ S 8 n = r then mbs S nP r n else mbs S nP r n + mb S nP n
def mf_letter (S : St) (n : Nat) (c : Int32) : Int32 × St := if 0 ≤ c then (if 255 < c then (-6, nob S 6) else if ¬ nI n = 96 then (nI (n + 1), sw (sw S 12 4 (nI (n + 1))) 13 n c) else (-6, nob S 6)) else (-4, nob S 4)
def MP (Z : ZZ) (h : Nat) (q : Nat → Nat) (r : Int32 × St) : Option Value → va_W → Prop := Fn (some (.int r.1)) (wM Z h q r.2)
theorem MP_mk {Z : ZZ} {h : Nat} {q : Nat → Nat} {v : Int32} {S : St} : MP Z h q (v, S) (some (.int v)) (wM Z h q S) := ⟨rfl, rfl⟩
theorem wthS_01 (v lo hi : Int32) : wthS v lo hi = 0 ∨ wthS v lo hi = 1 := by unfold wthS; repeat' first | exact Or.inl rfl | exact Or.inr rfl | apply ite01
set_option maxHeartbeats 400000 in
set_option maxRecDepth 20000 in
theorem con_M_within (l : Launch) (Z : ZZ) (v lo hi : Int32) : Con l Z yM_within cM_within 3 (some .boolean) 0 [.int v, .int lo, .int hi] ([]) (Fn (some (.int (wthS v lo hi))) ([])) := by
  refine Con.of (by decide) (Nat.le_of_ble_eq_true rfl) (fun X hX hQ => ?_)
  show G X Z ([]) 0 [(0, .int v), (1, .int lo), (2, .int hi)] []
  refine g_iload_n hX dM_within_0 0 rfl ?_
  refine g_iload_n hX dM_within_1 1 rfl ?_
  refine g_icmp_lt hX 14 dM_within_2 (by decide) (fun c_2 => ?_) (fun c_2 => ?_)
  · refine g_iconst (v := 0) hX dM_within_14 (by decide) ?_
    exact r_zret hX hQ (rfl) dM_within_15 rfl (⟨by simp [wthS, c_2], rfl⟩)
  · refine g_iload_n hX dM_within_5 0 rfl ?_
    refine g_iload_n hX dM_within_6 2 rfl ?_
    refine g_icmp_gt hX 14 dM_within_7 (by decide) (fun c_7 => ?_) (fun c_7 => ?_)
    · refine g_iconst (v := 0) hX dM_within_14 (by decide) ?_
      exact r_zret hX hQ (rfl) dM_within_15 rfl (⟨by simp [wthS, c_2, c_7], rfl⟩)
    · refine g_iconst (v := 1) hX dM_within_10 (by decide) ?_
      refine g_goto hX 15 dM_within_11 (by decide) ?_
      exact r_zret hX hQ (rfl) dM_within_15 rfl (⟨by simp [wthS, c_2, c_7], rfl⟩)
set_option maxHeartbeats 400000 in
set_option maxRecDepth 20000 in
theorem con_M_has (l : Launch) (Z : ZZ) (b i : Int32) : Con l Z yM_has cM_has 2 (some .boolean) 0 [.int b, .int i] ([]) (Fn (some (.int (hasS b i))) ([])) := by
  refine Con.of (by decide) (Nat.le_of_ble_eq_true rfl) (fun X hX hQ => ?_)
  show G X Z ([]) 0 [(0, .int b), (1, .int i)] []
  refine g_iload_n hX dM_has_0 0 rfl ?_
  refine g_iload_n hX dM_has_1 1 rfl ?_
  refine g_ishr (z := (b >>> (i &&& 31))) hX dM_has_2 (rfl) ?_
  refine g_iconst (v := 1) hX dM_has_3 (by decide) ?_
  refine g_iand (z := ((b >>> (i &&& 31)) &&& 1)) hX dM_has_4 (rfl) ?_
  refine g_iconst (v := 1) hX dM_has_5 (by decide) ?_
  refine g_icmp_ne hX 13 dM_has_6 (by decide) (fun c_6 => ?_) (fun c_6 => ?_)
  · refine g_iconst (v := 0) hX dM_has_13 (by decide) ?_
    exact r_zret hX hQ (rfl) dM_has_14 rfl (⟨by simp [hasS, c_6], rfl⟩)
  · refine g_iconst (v := 1) hX dM_has_9 (by decide) ?_
    refine g_goto hX 14 dM_has_10 (by decide) ?_
    exact r_zret hX hQ (rfl) dM_has_14 rfl (⟨by simp [hasS, c_6], rfl⟩)
set_option maxHeartbeats 400000 in
set_option maxRecDepth 20000 in
theorem con_M_isRoom (l : Launch) (Z : ZZ) (x : Int32) : Con l Z yM_isRoom cM_isRoom 1 (some .boolean) 1 [.int x] ([]) (Fn (some (.int (isRoomS x))) ([])) := by
  refine Con.of (by decide) (Nat.le_of_ble_eq_true rfl) (fun X hX hQ => ?_)
  show G X Z ([]) 0 [(0, .int x)] []
  refine g_iload_n hX dM_isRoom_0 0 rfl ?_
  refine g_iconst (v := 0) hX dM_isRoom_1 (by decide) ?_
  refine g_iconst (v := 5) hX dM_isRoom_2 (by decide) ?_
  refine g_callS hX (con_M_within l Z x 0 5) msM_within q_762 rfl (by decide) rfl (Nat.le_of_ble_eq_true rfl) dM_isRoom_3 [] rfl (rfl) (g_fn (ws1 := []) (st1 := [.int (wthS x 0 5)]) (rfl) rfl ?_)
  exact r_zret hX hQ (nar01 (wthS_01 _ _ _)) dM_isRoom_6 rfl (⟨by rw [wth_room], rfl⟩)
set_option maxHeartbeats 400000 in
set_option maxRecDepth 20000 in
theorem con_M_isPlace (l : Launch) (Z : ZZ) (x : Int32) : Con l Z yM_isPlace cM_isPlace 1 (some .boolean) 1 [.int x] ([]) (Fn (some (.int (isPlaceS x))) ([])) := by
  refine Con.of (by decide) (Nat.le_of_ble_eq_true rfl) (fun X hX hQ => ?_)
  show G X Z ([]) 0 [(0, .int x)] []
  refine g_iload_n hX dM_isPlace_0 0 rfl ?_
  refine g_iconst (v := 0) hX dM_isPlace_1 (by decide) ?_
  refine g_bipush (v := 6) hX dM_isPlace_2 (by decide) ?_
  refine g_callS hX (con_M_within l Z x 0 6) msM_within q_762 rfl (by decide) rfl (Nat.le_of_ble_eq_true rfl) dM_isPlace_4 [] rfl (rfl) (g_fn (ws1 := []) (st1 := [.int (wthS x 0 6)]) (rfl) rfl ?_)
  exact r_zret hX hQ (nar01 (wthS_01 _ _ _)) dM_isPlace_7 rfl (⟨by rw [wth_place], rfl⟩)
set_option maxHeartbeats 400000 in
set_option maxRecDepth 20000 in
theorem con_M_isLock (l : Launch) (Z : ZZ) (h : Nat) (q : Nat → Nat) (S : St) (x : Int32) (nL : Nat) (hL : S 12 0 = nI nL) (hL8 : nL ≤ 8) : Con l Z yM_isLock cM_isLock 2 (some .boolean) 1 [.ref h, .int x] (wM Z h q S) (Fn (some (.int (hasLockS S x))) (wM Z h q S)) := by
  refine Con.of (by decide) (Nat.le_of_ble_eq_true rfl) (fun X hX hQ => ?_)
  show G X Z (wM Z h q S) 0 [(0, .ref h), (1, .int x)] []
  refine g_iload_n hX dM_isLock_0 1 rfl ?_
  refine g_iconst (v := 0) hX dM_isLock_1 (by decide) ?_
  refine g_aload_n hX dM_isLock_2 0 rfl ?_
  refine g_get hX 0 rfl rfl 2 (by decide) uu_M q_586 rfl rfl dM_isLock_3 ?_
  refine g_top (y := (nI nL)) (hL) ?_
  refine g_iconst (v := 1) hX dM_isLock_6 (by decide) ?_
  refine g_isub (z := ((nI nL) - 1)) hX dM_isLock_7 (rfl) ?_
  refine g_callS hX (con_M_within l Z x 0 ((nI nL) - 1)) msM_within q_762 rfl (by decide) rfl (Nat.le_of_ble_eq_true rfl) dM_isLock_8 [] rfl (rfl) (g_fn (ws1 := wM Z h q S) (st1 := [.int (wthS x 0 ((nI nL) - 1))]) (rfl) rfl ?_)
  exact r_zret hX hQ (nar01 (wthS_01 _ _ _)) dM_isLock_11 keysM (⟨by rw [wth_n (by omega)]; unfold hasLockS; rw [hL], rfl⟩)
set_option maxHeartbeats 400000 in
set_option maxRecDepth 20000 in
theorem con_M_isOne (l : Launch) (Z : ZZ) (h : Nat) (q : Nat → Nat) (S : St) (x : Int32) (nP : Nat) (hP : S 12 1 = nI nP) (hP5 : nP ≤ 5) : Con l Z yM_isOne cM_isOne 2 (some .boolean) 1 [.ref h, .int x] (wM Z h q S) (Fn (some (.int (hasPersonS S x))) (wM Z h q S)) := by
  refine Con.of (by decide) (Nat.le_of_ble_eq_true rfl) (fun X hX hQ => ?_)
  show G X Z (wM Z h q S) 0 [(0, .ref h), (1, .int x)] []
  refine g_iload_n hX dM_isOne_0 1 rfl ?_
  refine g_iconst (v := 0) hX dM_isOne_1 (by decide) ?_
  refine g_aload_n hX dM_isOne_2 0 rfl ?_
  refine g_get hX 0 rfl rfl 8 (by decide) uu_M q_592 rfl rfl dM_isOne_3 ?_
  refine g_top (y := (nI nP)) (hP) ?_
  refine g_iconst (v := 1) hX dM_isOne_6 (by decide) ?_
  refine g_isub (z := ((nI nP) - 1)) hX dM_isOne_7 (rfl) ?_
  refine g_callS hX (con_M_within l Z x 0 ((nI nP) - 1)) msM_within q_762 rfl (by decide) rfl (Nat.le_of_ble_eq_true rfl) dM_isOne_8 [] rfl (rfl) (g_fn (ws1 := wM Z h q S) (st1 := [.int (wthS x 0 ((nI nP) - 1))]) (rfl) rfl ?_)
  exact r_zret hX hQ (nar01 (wthS_01 _ _ _)) dM_isOne_11 keysM (⟨by rw [wth_n (by omega)]; unfold hasPersonS; rw [hP], rfl⟩)
set_option maxHeartbeats 400000 in
set_option maxRecDepth 20000 in
theorem con_M_no (l : Launch) (Z : ZZ) (h : Nat) (q : Nat → Nat) (S : St) (x : Int32) (k : Nat) (hk : k < 7) (hx : -x = nI k) : Con l Z yM_no cM_no 2 (some .int) 0 [.ref h, .int x] (wM Z h q S) (Fn (some (.int (x))) (wM Z h q (nob S k))) := by
  refine Con.of (by decide) (Nat.le_of_ble_eq_true rfl) (fun X hX hQ => ?_)
  show G X Z (wM Z h q S) 0 [(0, .ref h), (1, .int x)] []
  refine g_aload_n hX dM_no_0 0 rfl ?_
  refine g_get hX 0 rfl rfl 22 (by decide) uu_M q_606 rfl rfl dM_no_1 ?_
  refine g_iload_n hX dM_no_4 1 rfl ?_
  refine g_ineg (z := (-x)) hX dM_no_5 rfl ?_
  refine g_dup2 hX dM_no_6 rfl rfl ?_
  refine g_ald (v := (S 16 k)) hX 16 rfl k (hk) (by decide) (hx) (rfl) dM_no_7 ?_
  refine g_iconst (v := 1) hX dM_no_8 (by decide) ?_
  refine g_iadd (z := ((S 16 k) + 1)) hX dM_no_9 (rfl) ?_
  refine g_ast (ws1 := wM Z h q (sw S 16 k ((S 16 k) + 1))) hX 16 rfl k (hk) (by decide) (hx) dM_no_10 (setM_S_16 Z h q S k ((S 16 k) + 1)) ?_
  refine g_iload_n hX dM_no_11 1 rfl ?_
  exact r_iret hX hQ dM_no_12 keysM (⟨rfl, rfl⟩)
set_option maxHeartbeats 400000 in
set_option maxRecDepth 20000 in
theorem con_M_there (l : Launch) (Z : ZZ) (h : Nat) (q : Nat → Nat) (S : St) (r : Int32) (nP : Nat) (hP : S 12 1 = nI nP) (hP5 : nP ≤ 5) : Con l Z yM_there cM_there 4 (some .int) 0 [.ref h, .int r] (wM Z h q S) (Fn (some (.int (cnt (S 8) r nP))) (wM Z h q S)) := by
  refine Con.of (by decide) (Nat.le_of_ble_eq_true rfl) (fun X hX hQ => ?_)
  show G X Z (wM Z h q S) 0 [(0, .ref h), (1, .int r)] []
  refine g_iconst (v := 0) hX dM_there_0 (by decide) ?_
  refine g_istore_n (lv1 := [(0, .ref h), (1, .int r), (2, .int 0)]) hX dM_there_1 (by decide) [1, 2, 0] rfl ?_
  refine g_iconst (v := 0) hX dM_there_2 (by decide) ?_
  refine g_istore_n (lv1 := [(0, .ref h), (1, .int r), (2, .int 0), (3, .int 0)]) hX dM_there_3 (by decide) [1, 2, 3, 0] rfl ?_
  have hL_4 : ∀ i0, i0 ≤ nP → G X Z (wM Z h q S) 4 [(0, .ref h), (1, .int r), (2, .int (cnt (S 8) r i0)), (3, .int (nI i0))] [] := by
    refine loopUp _ nP ?_ (fun i0 hi_i0 ih_i0 => ?_)
    · skip
      refine g_iload_n hX dM_there_4 3 rfl ?_
      refine g_aload_n hX dM_there_5 0 rfl ?_
      refine g_get hX 0 rfl rfl 8 (by decide) uu_M q_592 rfl rfl dM_there_6 ?_
      refine g_top (y := (nI nP)) (hP) ?_
      refine g_icmp_ge hX 31 dM_there_9 (by decide) (fun c_9 => ?_) (fun c_9 => absurd (nI_le (a := nP) (b := nP) (Nat.le_refl _) (by omega)) c_9)
      refine g_iload_n hX dM_there_31 2 rfl ?_
      exact r_iret hX hQ dM_there_32 keysM (⟨rfl, rfl⟩)
    · skip
      refine g_iload_n hX dM_there_4 3 rfl ?_
      refine g_aload_n hX dM_there_5 0 rfl ?_
      refine g_get hX 0 rfl rfl 8 (by decide) uu_M q_592 rfl rfl dM_there_6 ?_
      refine g_top (y := (nI nP)) (hP) ?_
      refine g_icmp_ge hX 31 dM_there_9 (by decide) (fun c_9 => absurd c_9 (nI_ge (a := i0) (b := nP) hi_i0 (by omega))) (fun c_9 => ?_)
      refine g_aload_n hX dM_there_12 0 rfl ?_
      refine g_get hX 0 rfl rfl 10 (by decide) uu_M q_594 rfl rfl dM_there_13 ?_
      refine g_iload_n hX dM_there_16 3 rfl ?_
      refine g_ald (v := (S 8 i0)) hX 9 rfl i0 (by omega) (by decide) (rfl) (rfl) dM_there_17 ?_
      refine g_iload_n hX dM_there_18 1 rfl ?_
      refine g_icmp_ne hX 25 dM_there_19 (by decide) (fun c_19 => ?_) (fun c_19 => ?_)
      · refine g_iinc (v := (nI (i0 + 1))) (lv1 := [(0, .ref h), (1, .int r), (2, .int (cnt (S 8) r i0)), (3, .int (nI (i0 + 1)))]) hX dM_there_25 3 rfl (inc_nat _) (by decide) [1, 2, 3, 0] rfl ?_
        refine g_goto hX 4 dM_there_28 (by decide) ?_
        have e_2 : (cnt (S 8) r i0) = (cnt (S 8) r (i0 + 1)) := by simp [cnt, c_9, c_19]
        exact g_eq (rfl) (by rw [e_2]) rfl ih_i0
      · refine g_iinc (v := ((cnt (S 8) r i0) + 1)) (lv1 := [(0, .ref h), (1, .int r), (2, .int ((cnt (S 8) r i0) + 1)), (3, .int (nI i0))]) hX dM_there_22 2 rfl (inc_raw _) (by decide) [1, 2, 0, 3] rfl ?_
        refine g_iinc (v := (nI (i0 + 1))) (lv1 := [(0, .ref h), (1, .int r), (2, .int ((cnt (S 8) r i0) + 1)), (3, .int (nI (i0 + 1)))]) hX dM_there_25 3 rfl (inc_nat _) (by decide) [1, 2, 3, 0] rfl ?_
        refine g_goto hX 4 dM_there_28 (by decide) ?_
        have e_2 : ((cnt (S 8) r i0) + 1) = (cnt (S 8) r (i0 + 1)) := by simp [cnt, c_9, c_19]
        exact g_eq (rfl) (by rw [e_2]) rfl ih_i0
  exact hL_4 0 (Nat.zero_le _)
set_option maxHeartbeats 400000 in
set_option maxRecDepth 20000 in
theorem con_M_breath (l : Launch) (Z : ZZ) (h : Nat) (q : Nat → Nat) (S : St) (p : Nat) (nP : Nat) (hP : S 12 1 = nI nP) (hP5 : nP ≤ 5) (hp : p < nP) : Con l Z yM_breath cM_breath 2 (some .int) 1 [.ref h, .int (nI p)] (wM Z h q S) (Fn (some (.int (mb S nP p))) (wM Z h q S)) := by
  refine Con.of (by decide) (Nat.le_of_ble_eq_true rfl) (fun X hX hQ => ?_)
  show G X Z (wM Z h q S) 0 [(0, .ref h), (1, .int (nI p))] []
  refine g_aload_n hX dM_breath_0 0 rfl ?_
  refine g_get hX 0 rfl rfl 10 (by decide) uu_M q_594 rfl rfl dM_breath_1 ?_
  refine g_iload_n hX dM_breath_4 1 rfl ?_
  refine g_ald (v := (S 8 p)) hX 9 rfl p (by omega) (by decide) (rfl) (rfl) dM_breath_5 ?_
  refine g_bipush (v := 6) hX dM_breath_6 (by decide) ?_
  refine g_icmp_ne hX 13 dM_breath_8 (by decide) (fun c_8 => ?_) (fun c_8 => ?_)
  · refine g_aload_n hX dM_breath_13 0 rfl ?_
    refine g_get hX 0 rfl rfl 9 (by decide) uu_M q_593 rfl rfl dM_breath_14 ?_
    refine g_iload_n hX dM_breath_17 1 rfl ?_
    refine g_ald (v := (S 7 p)) hX 8 rfl p (by omega) (by decide) (rfl) (rfl) dM_breath_18 ?_
    by_cases c_19_1 : (S 7 p) = 1
    · refine g_tabIn (off := 33) hX 52 dM_breath_19 (by rw [c_19_1]; decide) (by rw [c_19_1]; decide) (by rw [c_19_1]; decide) (by decide) ?_
      refine g_iconst (v := 1) hX dM_breath_52 (by decide) ?_
      exact r_iret hX hQ dM_breath_53 keysM (⟨by simp [mb, c_8, c_19_1], rfl⟩)
    by_cases c_19_2 : (S 7 p) = 2
    · refine g_tabIn (off := 35) hX 54 dM_breath_19 (by rw [c_19_2]; decide) (by rw [c_19_2]; decide) (by rw [c_19_2]; decide) (by decide) ?_
      refine g_iconst (v := 4) hX dM_breath_54 (by decide) ?_
      exact r_iret hX hQ dM_breath_55 keysM (⟨by simp [mb, c_8, c_19_1, c_19_2], rfl⟩)
    by_cases c_19_3 : (S 7 p) = 3
    · refine g_tabIn (off := 37) hX 56 dM_breath_19 (by rw [c_19_3]; decide) (by rw [c_19_3]; decide) (by rw [c_19_3]; decide) (by decide) ?_
      refine g_iconst (v := 3) hX dM_breath_56 (by decide) ?_
      exact r_iret hX hQ dM_breath_57 keysM (⟨by simp [mb, c_8, c_19_1, c_19_2, c_19_3], rfl⟩)
    by_cases c_19_4 : (S 7 p) = 4
    · refine g_tabIn (off := 39) hX 58 dM_breath_19 (by rw [c_19_4]; decide) (by rw [c_19_4]; decide) (by rw [c_19_4]; decide) (by decide) ?_
      refine g_iconst (v := 0) hX dM_breath_58 (by decide) ?_
      exact r_iret hX hQ dM_breath_59 keysM (⟨by simp [mb, c_8, c_19_1, c_19_2, c_19_3, c_19_4], rfl⟩)
    by_cases c_19_5 : (S 7 p) = 5
    · refine g_tabIn (off := 41) hX 60 dM_breath_19 (by rw [c_19_5]; decide) (by rw [c_19_5]; decide) (by rw [c_19_5]; decide) (by decide) ?_
      refine g_aload_n hX dM_breath_60 0 rfl ?_
      refine g_aload_n hX dM_breath_61 0 rfl ?_
      refine g_get hX 0 rfl rfl 10 (by decide) uu_M q_594 rfl rfl dM_breath_62 ?_
      refine g_iload_n hX dM_breath_65 1 rfl ?_
      refine g_ald (v := (S 8 p)) hX 9 rfl p (by omega) (by decide) (rfl) (rfl) dM_breath_66 ?_
      refine g_callV hX (con_M_there l Z h q S (S 8 p) nP hP hP5) mvM_there q_780 rfl (by decide) 0 rfl rfl rfl (Nat.le_of_ble_eq_true rfl) dM_breath_67 [0, 1, 2, 3, 4, 5, 6, 7, 8, 9, 10, 11, 12, 13, 14, 15, 16, 17, 18, 19, 20, 21] rfl (subM_all Z h q S) (g_fn (ws1 := wM Z h q S) (st1 := [.int (cnt (S 8) (S 8 p) nP)]) (putM_all Z h q S S) rfl ?_)
      refine g_iconst (v := 1) hX dM_breath_70 (by decide) ?_
      refine g_icmp_ne hX 78 dM_breath_71 (by decide) (fun c_71 => ?_) (fun c_71 => ?_)
      · refine g_iconst (v := 1) hX dM_breath_78 (by decide) ?_
        exact r_iret hX hQ dM_breath_79 keysM (⟨by simp [mb, c_8, c_19_1, c_19_2, c_19_3, c_19_4, c_19_5, c_71], rfl⟩)
      · refine g_iconst (v := 0) hX dM_breath_74 (by decide) ?_
        refine g_goto hX 79 dM_breath_75 (by decide) ?_
        exact r_iret hX hQ dM_breath_79 keysM (⟨by simp [mb, c_8, c_19_1, c_19_2, c_19_3, c_19_4, c_19_5, c_71], rfl⟩)
    refine g_tabOut hX 80 dM_breath_19 (by have := ne_toInt c_19_1 (z := 1) (by decide); have := ne_toInt c_19_2 (z := 2) (by decide); have := ne_toInt c_19_3 (z := 3) (by decide); have := ne_toInt c_19_4 (z := 4) (by decide); have := ne_toInt c_19_5 (z := 5) (by decide); omega) (by decide) ?_
    refine g_iconst (v := 2) hX dM_breath_80 (by decide) ?_
    exact r_iret hX hQ dM_breath_81 keysM (⟨by simp [mb, c_8, c_19_1, c_19_2, c_19_3, c_19_4, c_19_5], rfl⟩)
  · refine g_iconst (v := 0) hX dM_breath_11 (by decide) ?_
    exact r_iret hX hQ dM_breath_12 keysM (⟨by simp [mb, c_8], rfl⟩)
set_option maxHeartbeats 400000 in
set_option maxRecDepth 20000 in
theorem con_M_breathed (l : Launch) (Z : ZZ) (h : Nat) (q : Nat → Nat) (S : St) (r : Int32) (nP : Nat) (hP : S 12 1 = nI nP) (hP5 : nP ≤ 5) : Con l Z yM_breathed cM_breathed 4 (some .int) 2 [.ref h, .int r] (wM Z h q S) (Fn (some (.int (mbs S nP r nP))) (wM Z h q S)) := by
  refine Con.of (by decide) (Nat.le_of_ble_eq_true rfl) (fun X hX hQ => ?_)
  show G X Z (wM Z h q S) 0 [(0, .ref h), (1, .int r)] []
  refine g_iconst (v := 0) hX dM_breathed_0 (by decide) ?_
  refine g_istore_n (lv1 := [(0, .ref h), (1, .int r), (2, .int 0)]) hX dM_breathed_1 (by decide) [1, 2, 0] rfl ?_
  refine g_iconst (v := 0) hX dM_breathed_2 (by decide) ?_
  refine g_istore_n (lv1 := [(0, .ref h), (1, .int r), (2, .int 0), (3, .int 0)]) hX dM_breathed_3 (by decide) [1, 2, 3, 0] rfl ?_
  have hL_4 : ∀ i0, i0 ≤ nP → G X Z (wM Z h q S) 4 [(0, .ref h), (1, .int r), (2, .int (mbs S nP r i0)), (3, .int (nI i0))] [] := by
    refine loopUp _ nP ?_ (fun i0 hi_i0 ih_i0 => ?_)
    · skip
      refine g_iload_n hX dM_breathed_4 3 rfl ?_
      refine g_aload_n hX dM_breathed_5 0 rfl ?_
      refine g_get hX 0 rfl rfl 8 (by decide) uu_M q_592 rfl rfl dM_breathed_6 ?_
      refine g_top (y := (nI nP)) (hP) ?_
      refine g_icmp_ge hX 36 dM_breathed_9 (by decide) (fun c_9 => ?_) (fun c_9 => absurd (nI_le (a := nP) (b := nP) (Nat.le_refl _) (by omega)) c_9)
      refine g_iload_n hX dM_breathed_36 2 rfl ?_
      exact r_iret hX hQ dM_breathed_37 keysM (⟨rfl, rfl⟩)
    · skip
      refine g_iload_n hX dM_breathed_4 3 rfl ?_
      refine g_aload_n hX dM_breathed_5 0 rfl ?_
      refine g_get hX 0 rfl rfl 8 (by decide) uu_M q_592 rfl rfl dM_breathed_6 ?_
      refine g_top (y := (nI nP)) (hP) ?_
      refine g_icmp_ge hX 36 dM_breathed_9 (by decide) (fun c_9 => absurd c_9 (nI_ge (a := i0) (b := nP) hi_i0 (by omega))) (fun c_9 => ?_)
      refine g_aload_n hX dM_breathed_12 0 rfl ?_
      refine g_get hX 0 rfl rfl 10 (by decide) uu_M q_594 rfl rfl dM_breathed_13 ?_
      refine g_iload_n hX dM_breathed_16 3 rfl ?_
      refine g_ald (v := (S 8 i0)) hX 9 rfl i0 (by omega) (by decide) (rfl) (rfl) dM_breathed_17 ?_
      refine g_iload_n hX dM_breathed_18 1 rfl ?_
      refine g_icmp_ne hX 30 dM_breathed_19 (by decide) (fun c_19 => ?_) (fun c_19 => ?_)
      · refine g_iinc (v := (nI (i0 + 1))) (lv1 := [(0, .ref h), (1, .int r), (2, .int (mbs S nP r i0)), (3, .int (nI (i0 + 1)))]) hX dM_breathed_30 3 rfl (inc_nat _) (by decide) [1, 2, 3, 0] rfl ?_
        refine g_goto hX 4 dM_breathed_33 (by decide) ?_
        have e_2 : (mbs S nP r i0) = (mbs S nP r (i0 + 1)) := by simp [mbs, c_9, c_19]
        exact g_eq (rfl) (by rw [e_2]) rfl ih_i0
      · refine g_iload_n hX dM_breathed_22 2 rfl ?_
        refine g_aload_n hX dM_breathed_23 0 rfl ?_
        refine g_iload_n hX dM_breathed_24 3 rfl ?_
        refine g_callV hX (con_M_breath l Z h q S i0 nP hP hP5 (by omega)) mvM_breath q_788 rfl (by decide) 0 rfl rfl rfl (Nat.le_of_ble_eq_true rfl) dM_breathed_25 [0, 1, 2, 3, 4, 5, 6, 7, 8, 9, 10, 11, 12, 13, 14, 15, 16, 17, 18, 19, 20, 21] rfl (subM_all Z h q S) (g_fn (ws1 := wM Z h q S) (st1 := [.int (mb S nP i0), .int (mbs S nP r i0)]) (putM_all Z h q S S) rfl ?_)
        refine g_iadd (z := ((mbs S nP r i0) + (mb S nP i0))) hX dM_breathed_28 (rfl) ?_
        refine g_istore_n (lv1 := [(0, .ref h), (1, .int r), (2, .int ((mbs S nP r i0) + (mb S nP i0))), (3, .int (nI i0))]) hX dM_breathed_29 (by decide) [1, 2, 0, 3] rfl ?_
        refine g_iinc (v := (nI (i0 + 1))) (lv1 := [(0, .ref h), (1, .int r), (2, .int ((mbs S nP r i0) + (mb S nP i0))), (3, .int (nI (i0 + 1)))]) hX dM_breathed_30 3 rfl (inc_nat _) (by decide) [1, 2, 3, 0] rfl ?_
        refine g_goto hX 4 dM_breathed_33 (by decide) ?_
        have e_2 : ((mbs S nP r i0) + (mb S nP i0)) = (mbs S nP r (i0 + 1)) := by simp [mbs, c_9, c_19]
        exact g_eq (rfl) (by rw [e_2]) rfl ih_i0
  exact hL_4 0 (Nat.zero_le _)
set_option maxHeartbeats 400000 in
set_option maxRecDepth 20000 in
theorem con_M_letter (l : Launch) (Z : ZZ) (h : Nat) (q : Nat → Nat) (S : St) (c : Int32) (n9 : Nat) (hN : S 12 4 = nI n9) (hN96 : n9 ≤ 96) : Con l Z yM_letter cM_letter 2 (some .int) 1 [.ref h, .int c] (wM Z h q S) (MP Z h q (mf_letter S n9 c)) := by
  refine Con.of (by decide) (Nat.le_of_ble_eq_true rfl) (fun X hX hQ => ?_)
  show G X Z (wM Z h q S) 0 [(0, .ref h), (1, .int c)] []
  refine g_iload_n hX dM_letter_0 1 rfl ?_
  refine g_if_ge hX 11 dM_letter_1 (by decide) (fun c_1 => ?_) (fun c_1 => ?_)
  · refine g_iload_n hX dM_letter_11 1 rfl ?_
    refine g_sipush (v := 255) hX dM_letter_12 (by decide) ?_
    refine g_icmp_gt hX 27 dM_letter_15 (by decide) (fun c_15 => ?_) (fun c_15 => ?_)
    · refine g_aload_n hX dM_letter_27 0 rfl ?_
      refine g_bipush (v := (-6)) hX dM_letter_28 (by decide) ?_
      refine g_callV hX (con_M_no l Z h q S (-6) 6 (by decide) (by decide)) mvM_no q_676 rfl (by decide) 0 rfl rfl rfl (Nat.le_of_ble_eq_true rfl) dM_letter_30 [0, 1, 2, 3, 4, 5, 6, 7, 8, 9, 10, 11, 12, 13, 14, 15, 16, 17, 18, 19, 20, 21] rfl (subM_all Z h q S) (g_fn (ws1 := wM Z h q (nob S 6)) (st1 := [.int (-6)]) (putM_all Z h q S (nob S 6)) rfl ?_)
      exact r_iret hX hQ dM_letter_33 keysM (by rw [show mf_letter S n9 c = ((-6), nob S 6) from by simp [mf_letter, c_1, c_15]]; exact MP_mk)
    · refine g_aload_n hX dM_letter_18 0 rfl ?_
      refine g_get hX 0 rfl rfl 16 (by decide) uu_M q_600 rfl rfl dM_letter_19 ?_
      refine g_top (y := (nI n9)) (by first | exact hN | (simp [sw]; exact hN)) ?_
      refine g_bipush (v := 96) hX dM_letter_22 (by decide) ?_
      refine g_icmp_ne hX 34 dM_letter_24 (by decide) (fun c_24 => ?_) (fun c_24 => ?_)
      · have hn96 : n9 < 96 := by
            have q : ¬ n9 = 96 := fun q => c_24 (by rw [q]; rfl)
            omega
        refine g_aload_n hX dM_letter_34 0 rfl ?_
        refine g_get hX 0 rfl rfl 17 (by decide) uu_M q_601 rfl rfl dM_letter_35 ?_
        refine g_aload_n hX dM_letter_38 0 rfl ?_
        refine g_dup hX dM_letter_39 rfl ?_
        refine g_get hX 0 rfl rfl 16 (by decide) uu_M q_600 rfl rfl dM_letter_40 ?_
        refine g_top (y := (nI n9)) (by first | exact hN | (simp [sw]; exact hN)) ?_
        refine g_dup_x1 hX dM_letter_43 rfl rfl ?_
        refine g_iconst (v := 1) hX dM_letter_44 (by decide) ?_
        refine g_iadd (z := (nI (n9 + 1))) hX dM_letter_45 (nI_add n9 1) ?_
        refine g_put (ws1 := wM Z h q (sw S 12 4 (nI (n9 + 1)))) hX 0 rfl rfl 16 (by decide) uu_M tyF_M tyF_M_ok nmF_M q_600 rfl rfl rfl rfl rfl (Nat.le_of_ble_eq_true rfl) dM_letter_46 (fldM_S_12_4 Z h q S (nI (n9 + 1))) ?_
        refine g_iload_n hX dM_letter_49 1 rfl ?_
        refine g_ast (ws1 := wM Z h q (sw (sw S 12 4 (nI (n9 + 1))) 13 n9 c)) hX 13 rfl n9 (by omega) (by decide) (rfl) dM_letter_50 (setM_S_13 Z h q (sw S 12 4 (nI (n9 + 1))) n9 c) ?_
        refine g_aload_n hX dM_letter_51 0 rfl ?_
        refine g_get hX 0 rfl rfl 16 (by decide) uu_M q_600 rfl rfl dM_letter_52 ?_
        refine g_top (y := (nI (n9 + 1))) (by simp [sw_ne, sw_eq, upd]) ?_
        exact r_iret hX hQ dM_letter_55 keysM (by rw [show mf_letter S n9 c = ((nI (n9 + 1)), sw (sw S 12 4 (nI (n9 + 1))) 13 n9 c) from by simp [mf_letter, c_1, c_15, c_24]]; exact MP_mk)
      · refine g_aload_n hX dM_letter_27 0 rfl ?_
        refine g_bipush (v := (-6)) hX dM_letter_28 (by decide) ?_
        refine g_callV hX (con_M_no l Z h q S (-6) 6 (by decide) (by decide)) mvM_no q_676 rfl (by decide) 0 rfl rfl rfl (Nat.le_of_ble_eq_true rfl) dM_letter_30 [0, 1, 2, 3, 4, 5, 6, 7, 8, 9, 10, 11, 12, 13, 14, 15, 16, 17, 18, 19, 20, 21] rfl (subM_all Z h q S) (g_fn (ws1 := wM Z h q (nob S 6)) (st1 := [.int (-6)]) (putM_all Z h q S (nob S 6)) rfl ?_)
        exact r_iret hX hQ dM_letter_33 keysM (by rw [show mf_letter S n9 c = ((-6), nob S 6) from by simp [mf_letter, c_1, c_15, c_24]]; exact MP_mk)
  · refine g_aload_n hX dM_letter_4 0 rfl ?_
    refine g_bipush (v := (-4)) hX dM_letter_5 (by decide) ?_
    refine g_callV hX (con_M_no l Z h q S (-4) 4 (by decide) (by decide)) mvM_no q_676 rfl (by decide) 0 rfl rfl rfl (Nat.le_of_ble_eq_true rfl) dM_letter_7 [0, 1, 2, 3, 4, 5, 6, 7, 8, 9, 10, 11, 12, 13, 14, 15, 16, 17, 18, 19, 20, 21] rfl (subM_all Z h q S) (g_fn (ws1 := wM Z h q (nob S 4)) (st1 := [.int (-4)]) (putM_all Z h q S (nob S 4)) rfl ?_)
    exact r_iret hX hQ dM_letter_10 keysM (by rw [show mf_letter S n9 c = ((-4), nob S 4) from by simp [mf_letter, c_1]]; exact MP_mk)

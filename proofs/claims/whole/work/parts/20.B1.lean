/-! the Burrow: what breathes -/
def isRoomS (x : Int32) : Int32 := if x < 0 then 0 else if 6 ≤ x then 0 else 1
def isPlaceS (x : Int32) : Int32 := if x < 0 then 0 else if 7 ≤ x then 0 else 1
def bk (k a : Int32) : Int32 := if k = 0 then 2 else if k = 1 then 1 else if k = 2 then 4 else if k = 3 then 3 else if k = 4 then 0 else if k = 5 then (if a = 0 then 1 else 0) else 0
def kindOfS (x : Int32) : Int32 := if x = 112 then 0 else if x = 99 then 1 else if x = 119 then 2 else if x = 104 then 3 else if x = 116 then 4 else if x = 115 then 5 else -1
def orNoneS (x : Int32) : Int32 := if 1000000 ≤ x then -9 else x
def nextSeedS (z : Int32) : Int32 := z * 1664525 + 1013904223
def drawnS (z m : Int32) : Int32 := if m ≤ 0 then 0 else (z &&& 2147483647) / 256 - (z &&& 2147483647) / 256 / m * m
/-- how many of the first so many are that -/
def cnt (f : Nat → Int32) (r : Int32) : Nat → Int32
  | 0 => 0
  | n + 1 => if f n = r then cnt f r n + 1 else cnt f r n
def al (x : Int32) : Int32 := if x = 1 then 1 else 0
def bsum (S : St) (r a : Int32) : Nat → Int32
  | 0 => 0
  | n + 1 => if S 8 n = r then bsum S r a n + bk (S 7 n) a else bsum S r a n
def breathInS (S : St) (nP : Nat) (r : Int32) : Int32 := bsum S r (al (cnt (S 8) r nP)) nP
def hasLockS (S : St) (x : Int32) : Int32 := if x < 0 then 0 else if S 12 0 ≤ x then 0 else 1
def hasPersonS (S : St) (x : Int32) : Int32 := if x < 0 then 0 else if S 12 1 ≤ x then 0 else 1
set_option maxHeartbeats 4000000 in
set_option maxRecDepth 20000 in
theorem con_X_isRoom (l : Launch) (Z : ZZ) (x : Int32) : Con l Z yX_isRoom cX_isRoom 1 (some .boolean) 0 [.int x] ([]) (Fn (some (.int (isRoomS x))) ([])) := by
  refine Con.of (by decide) (Nat.le_of_ble_eq_true rfl) (fun X hX hQ => ?_)
  show G X Z ([]) 0 [(0, .int x)] []
  refine g_iload_n hX dX_isRoom_0 0 rfl ?_
  refine g_if_lt hX 14 dX_isRoom_1 (by decide) (fun c_1 => ?_) (fun c_1 => ?_)
  · refine g_iconst (v := 0) hX dX_isRoom_14 (by decide) ?_
    exact r_zret hX hQ (rfl) dX_isRoom_15 rfl (⟨by simp [isRoomS, c_1], rfl⟩)
  · refine g_iload_n hX dX_isRoom_4 0 rfl ?_
    refine g_bipush (v := 6) hX dX_isRoom_5 (by decide) ?_
    refine g_icmp_ge hX 14 dX_isRoom_7 (by decide) (fun c_7 => ?_) (fun c_7 => ?_)
    · refine g_iconst (v := 0) hX dX_isRoom_14 (by decide) ?_
      exact r_zret hX hQ (rfl) dX_isRoom_15 rfl (⟨by simp [isRoomS, c_1, c_7], rfl⟩)
    · refine g_iconst (v := 1) hX dX_isRoom_10 (by decide) ?_
      refine g_goto hX 15 dX_isRoom_11 (by decide) ?_
      exact r_zret hX hQ (rfl) dX_isRoom_15 rfl (⟨by simp [isRoomS, c_1, c_7], rfl⟩)
set_option maxHeartbeats 4000000 in
set_option maxRecDepth 20000 in
theorem con_X_isPlace (l : Launch) (Z : ZZ) (x : Int32) : Con l Z yX_isPlace cX_isPlace 1 (some .boolean) 0 [.int x] ([]) (Fn (some (.int (isPlaceS x))) ([])) := by
  refine Con.of (by decide) (Nat.le_of_ble_eq_true rfl) (fun X hX hQ => ?_)
  show G X Z ([]) 0 [(0, .int x)] []
  refine g_iload_n hX dX_isPlace_0 0 rfl ?_
  refine g_if_lt hX 14 dX_isPlace_1 (by decide) (fun c_1 => ?_) (fun c_1 => ?_)
  · refine g_iconst (v := 0) hX dX_isPlace_14 (by decide) ?_
    exact r_zret hX hQ (rfl) dX_isPlace_15 rfl (⟨by simp [isPlaceS, c_1], rfl⟩)
  · refine g_iload_n hX dX_isPlace_4 0 rfl ?_
    refine g_bipush (v := 7) hX dX_isPlace_5 (by decide) ?_
    refine g_icmp_ge hX 14 dX_isPlace_7 (by decide) (fun c_7 => ?_) (fun c_7 => ?_)
    · refine g_iconst (v := 0) hX dX_isPlace_14 (by decide) ?_
      exact r_zret hX hQ (rfl) dX_isPlace_15 rfl (⟨by simp [isPlaceS, c_1, c_7], rfl⟩)
    · refine g_iconst (v := 1) hX dX_isPlace_10 (by decide) ?_
      refine g_goto hX 15 dX_isPlace_11 (by decide) ?_
      exact r_zret hX hQ (rfl) dX_isPlace_15 rfl (⟨by simp [isPlaceS, c_1, c_7], rfl⟩)
set_option maxHeartbeats 4000000 in
set_option maxRecDepth 20000 in
theorem con_X_breathOfKind (l : Launch) (Z : ZZ) (k b : Int32) : Con l Z yX_breathOfKind cX_breathOfKind 2 (some .int) 0 [.int k, .int b] ([]) (Fn (some (.int (bk k b))) ([])) := by
  refine Con.of (by decide) (Nat.le_of_ble_eq_true rfl) (fun X hX hQ => ?_)
  show G X Z ([]) 0 [(0, .int k), (1, .int b)] []
  refine g_iload_n hX dX_breathOfKind_0 0 rfl ?_
  by_cases c_1_0 : k = 0
  · refine g_tabIn (off := 39) hX 40 dX_breathOfKind_1 (by rw [c_1_0]; decide) (by rw [c_1_0]; decide) (by rw [c_1_0]; decide) (by decide) ?_
    refine g_iconst (v := 2) hX dX_breathOfKind_40 (by decide) ?_
    exact r_iret hX hQ dX_breathOfKind_41 rfl (⟨by simp [bk, c_1_0], rfl⟩)
  by_cases c_1_1 : k = 1
  · refine g_tabIn (off := 41) hX 42 dX_breathOfKind_1 (by rw [c_1_1]; decide) (by rw [c_1_1]; decide) (by rw [c_1_1]; decide) (by decide) ?_
    refine g_iconst (v := 1) hX dX_breathOfKind_42 (by decide) ?_
    exact r_iret hX hQ dX_breathOfKind_43 rfl (⟨by simp [bk, c_1_0, c_1_1], rfl⟩)
  by_cases c_1_2 : k = 2
  · refine g_tabIn (off := 43) hX 44 dX_breathOfKind_1 (by rw [c_1_2]; decide) (by rw [c_1_2]; decide) (by rw [c_1_2]; decide) (by decide) ?_
    refine g_iconst (v := 4) hX dX_breathOfKind_44 (by decide) ?_
    exact r_iret hX hQ dX_breathOfKind_45 rfl (⟨by simp [bk, c_1_0, c_1_1, c_1_2], rfl⟩)
  by_cases c_1_3 : k = 3
  · refine g_tabIn (off := 45) hX 46 dX_breathOfKind_1 (by rw [c_1_3]; decide) (by rw [c_1_3]; decide) (by rw [c_1_3]; decide) (by decide) ?_
    refine g_iconst (v := 3) hX dX_breathOfKind_46 (by decide) ?_
    exact r_iret hX hQ dX_breathOfKind_47 rfl (⟨by simp [bk, c_1_0, c_1_1, c_1_2, c_1_3], rfl⟩)
  by_cases c_1_4 : k = 4
  · refine g_tabIn (off := 47) hX 48 dX_breathOfKind_1 (by rw [c_1_4]; decide) (by rw [c_1_4]; decide) (by rw [c_1_4]; decide) (by decide) ?_
    refine g_iconst (v := 0) hX dX_breathOfKind_48 (by decide) ?_
    exact r_iret hX hQ dX_breathOfKind_49 rfl (⟨by simp [bk, c_1_0, c_1_1, c_1_2, c_1_3, c_1_4], rfl⟩)
  by_cases c_1_5 : k = 5
  · refine g_tabIn (off := 49) hX 50 dX_breathOfKind_1 (by rw [c_1_5]; decide) (by rw [c_1_5]; decide) (by rw [c_1_5]; decide) (by decide) ?_
    refine g_iload_n hX dX_breathOfKind_50 1 rfl ?_
    refine g_if_eq hX 58 dX_breathOfKind_51 (by decide) (fun c_51 => ?_) (fun c_51 => ?_)
    · refine g_iconst (v := 1) hX dX_breathOfKind_58 (by decide) ?_
      exact r_iret hX hQ dX_breathOfKind_59 rfl (⟨by simp [bk, c_1_0, c_1_1, c_1_2, c_1_3, c_1_4, c_1_5, c_51], rfl⟩)
    · refine g_iconst (v := 0) hX dX_breathOfKind_54 (by decide) ?_
      refine g_goto hX 59 dX_breathOfKind_55 (by decide) ?_
      exact r_iret hX hQ dX_breathOfKind_59 rfl (⟨by simp [bk, c_1_0, c_1_1, c_1_2, c_1_3, c_1_4, c_1_5, c_51], rfl⟩)
  refine g_tabOut hX 60 dX_breathOfKind_1 (by have := ne_toInt c_1_0 (z := 0) (by decide); have := ne_toInt c_1_1 (z := 1) (by decide); have := ne_toInt c_1_2 (z := 2) (by decide); have := ne_toInt c_1_3 (z := 3) (by decide); have := ne_toInt c_1_4 (z := 4) (by decide); have := ne_toInt c_1_5 (z := 5) (by decide); omega) (by decide) ?_
  refine g_iconst (v := 0) hX dX_breathOfKind_60 (by decide) ?_
  exact r_iret hX hQ dX_breathOfKind_61 rfl (⟨by simp [bk, c_1_0, c_1_1, c_1_2, c_1_3, c_1_4, c_1_5], rfl⟩)
set_option maxHeartbeats 4000000 in
set_option maxRecDepth 20000 in
theorem con_X_kindOf (l : Launch) (Z : ZZ) (x : Int32) : Con l Z yX_kindOf cX_kindOf 1 (some .int) 0 [.int x] ([]) (Fn (some (.int (kindOfS x))) ([])) := by
  refine Con.of (by decide) (Nat.le_of_ble_eq_true rfl) (fun X hX hQ => ?_)
  show G X Z ([]) 0 [(0, .int x)] []
  refine g_iload_n hX dX_kindOf_0 0 rfl ?_
  by_cases c_1_99 : x = 99
  · refine g_look (off := 61) hX 62 dX_kindOf_1 (by decide) (by rw [c_1_99]; decide) (by decide) ?_
    refine g_iconst (v := 1) hX dX_kindOf_62 (by decide) ?_
    exact r_iret hX hQ dX_kindOf_63 rfl (⟨by simp [kindOfS, c_1_99], rfl⟩)
  by_cases c_1_104 : x = 104
  · refine g_look (off := 65) hX 66 dX_kindOf_1 (by decide) (by rw [c_1_104]; decide) (by decide) ?_
    refine g_iconst (v := 3) hX dX_kindOf_66 (by decide) ?_
    exact r_iret hX hQ dX_kindOf_67 rfl (⟨by simp [kindOfS, c_1_99, c_1_104], rfl⟩)
  by_cases c_1_112 : x = 112
  · refine g_look (off := 59) hX 60 dX_kindOf_1 (by decide) (by rw [c_1_112]; decide) (by decide) ?_
    refine g_iconst (v := 0) hX dX_kindOf_60 (by decide) ?_
    exact r_iret hX hQ dX_kindOf_61 rfl (⟨by simp [kindOfS, c_1_99, c_1_104, c_1_112], rfl⟩)
  by_cases c_1_115 : x = 115
  · refine g_look (off := 69) hX 70 dX_kindOf_1 (by decide) (by rw [c_1_115]; decide) (by decide) ?_
    refine g_iconst (v := 5) hX dX_kindOf_70 (by decide) ?_
    exact r_iret hX hQ dX_kindOf_71 rfl (⟨by simp [kindOfS, c_1_99, c_1_104, c_1_112, c_1_115], rfl⟩)
  by_cases c_1_116 : x = 116
  · refine g_look (off := 67) hX 68 dX_kindOf_1 (by decide) (by rw [c_1_116]; decide) (by decide) ?_
    refine g_iconst (v := 4) hX dX_kindOf_68 (by decide) ?_
    exact r_iret hX hQ dX_kindOf_69 rfl (⟨by simp [kindOfS, c_1_99, c_1_104, c_1_112, c_1_115, c_1_116], rfl⟩)
  by_cases c_1_119 : x = 119
  · refine g_look (off := 63) hX 64 dX_kindOf_1 (by decide) (by rw [c_1_119]; decide) (by decide) ?_
    refine g_iconst (v := 2) hX dX_kindOf_64 (by decide) ?_
    exact r_iret hX hQ dX_kindOf_65 rfl (⟨by simp [kindOfS, c_1_99, c_1_104, c_1_112, c_1_115, c_1_116, c_1_119], rfl⟩)
  refine g_look (off := 71) hX 72 dX_kindOf_1 (by decide) (by rw [lv_osw c_1_99 (by decide)]; rw [lv_osw c_1_104 (by decide)]; rw [lv_osw c_1_112 (by decide)]; rw [lv_osw c_1_115 (by decide)]; rw [lv_osw c_1_116 (by decide)]; rw [lv_osw c_1_119 (by decide)]; rfl) (by decide) ?_
  refine g_iconst (v := (-1)) hX dX_kindOf_72 (by decide) ?_
  exact r_iret hX hQ dX_kindOf_73 rfl (⟨by simp [kindOfS, c_1_99, c_1_104, c_1_112, c_1_115, c_1_116, c_1_119], rfl⟩)
set_option maxHeartbeats 4000000 in
set_option maxRecDepth 20000 in
theorem con_X_orNone (l : Launch) (Z : ZZ) (x : Int32) : Con l Z yX_orNone cX_orNone 1 (some .int) 0 [.int x] ([]) (Fn (some (.int (orNoneS x))) ([])) := by
  refine Con.of (by decide) (Nat.le_of_ble_eq_true rfl) (fun X hX hQ => ?_)
  show G X Z ([]) 0 [(0, .int x)] []
  refine g_iload_n hX dX_orNone_0 0 rfl ?_
  refine g_ldc hX dX_orNone_1 q_428 ?_
  refine g_icmp_ge hX 10 dX_orNone_3 (by decide) (fun c_3 => ?_) (fun c_3 => ?_)
  · refine g_bipush (v := (-9)) hX dX_orNone_10 (by decide) ?_
    exact r_iret hX hQ dX_orNone_12 rfl (⟨by simp [orNoneS, c_3], rfl⟩)
  · refine g_iload_n hX dX_orNone_6 0 rfl ?_
    refine g_goto hX 12 dX_orNone_7 (by decide) ?_
    exact r_iret hX hQ dX_orNone_12 rfl (⟨by simp [orNoneS, c_3], rfl⟩)
set_option maxHeartbeats 4000000 in
set_option maxRecDepth 20000 in
theorem con_X_nextSeed (l : Launch) (Z : ZZ) (z : Int32) : Con l Z yX_nextSeed cX_nextSeed 1 (some .int) 0 [.int z] ([]) (Fn (some (.int (nextSeedS z))) ([])) := by
  refine Con.of (by decide) (Nat.le_of_ble_eq_true rfl) (fun X hX hQ => ?_)
  show G X Z ([]) 0 [(0, .int z)] []
  refine g_iload_n hX dX_nextSeed_0 0 rfl ?_
  refine g_ldcw hX dX_nextSeed_1 q_557 ?_
  refine g_imul (z := (z * 1664525)) hX dX_nextSeed_4 (rfl) ?_
  refine g_ldcw hX dX_nextSeed_5 q_558 ?_
  refine g_iadd (z := ((z * 1664525) + 1013904223)) hX dX_nextSeed_8 (rfl) ?_
  exact r_iret hX hQ dX_nextSeed_9 rfl (⟨by simp [nextSeedS], rfl⟩)
set_option maxHeartbeats 4000000 in
set_option maxRecDepth 20000 in
theorem con_X_drawn (l : Launch) (Z : ZZ) (z m : Int32) : Con l Z yX_drawn cX_drawn 2 (some .int) 0 [.int z, .int m] ([]) (Fn (some (.int (drawnS z m))) ([])) := by
  refine Con.of (by decide) (Nat.le_of_ble_eq_true rfl) (fun X hX hQ => ?_)
  show G X Z ([]) 0 [(0, .int z), (1, .int m)] []
  refine g_iload_n hX dX_drawn_0 1 rfl ?_
  refine g_if_le hX 18 dX_drawn_1 (by decide) (fun c_1 => ?_) (fun c_1 => ?_)
  · refine g_iconst (v := 0) hX dX_drawn_18 (by decide) ?_
    exact r_iret hX hQ dX_drawn_19 rfl (⟨by simp [drawnS, c_1], rfl⟩)
  · refine g_iload_n hX dX_drawn_4 0 rfl ?_
    refine g_ldcw hX dX_drawn_5 q_562 ?_
    refine g_iand (z := (z &&& 2147483647)) hX dX_drawn_8 (rfl) ?_
    refine g_sipush (v := 256) hX dX_drawn_9 (by decide) ?_
    refine g_idiv (z := ((z &&& 2147483647) / 256)) hX dX_drawn_12 (by decide) (rfl) ?_
    refine g_iload_n hX dX_drawn_13 1 rfl ?_
    refine g_irem (z := (((z &&& 2147483647) / 256) - ((z &&& 2147483647) / 256) / m * m)) hX dX_drawn_14 (fun q => c_1 (by rw [q]; decide)) (rfl) ?_
    refine g_goto hX 19 dX_drawn_15 (by decide) ?_
    exact r_iret hX hQ dX_drawn_19 rfl (⟨by simp [drawnS, c_1], rfl⟩)
set_option maxHeartbeats 4000000 in
set_option maxRecDepth 20000 in
theorem con_B_hasLock (l : Launch) (Z : ZZ) (h : Nat) (q : Nat → Nat) (S : St) (x : Int32) : Con l Z yB_hasLock cB_hasLock 2 (some .boolean) 0 [.ref h, .int x] (wB Z h q S) (Fn (some (.int (hasLockS S x))) (wB Z h q S)) := by
  refine Con.of (by decide) (Nat.le_of_ble_eq_true rfl) (fun X hX hQ => ?_)
  show G X Z (wB Z h q S) 0 [(0, .ref h), (1, .int x)] []
  refine g_iload_n hX dB_hasLock_0 1 rfl ?_
  refine g_if_lt hX 16 dB_hasLock_1 (by decide) (fun c_1 => ?_) (fun c_1 => ?_)
  · refine g_iconst (v := 0) hX dB_hasLock_16 (by decide) ?_
    exact r_zret hX hQ (rfl) dB_hasLock_17 rfl (⟨by simp [hasLockS, c_1], rfl⟩)
  · refine g_iload_n hX dB_hasLock_4 1 rfl ?_
    refine g_aload_n hX dB_hasLock_5 0 rfl ?_
    refine g_get hX 0 rfl rfl 7 (by decide) uu_B q_49 rfl rfl dB_hasLock_6 ?_
    refine g_icmp_ge hX 16 dB_hasLock_9 (by decide) (fun c_9 => ?_) (fun c_9 => ?_)
    · refine g_iconst (v := 0) hX dB_hasLock_16 (by decide) ?_
      exact r_zret hX hQ (rfl) dB_hasLock_17 rfl (⟨by simp [hasLockS, c_1, c_9], rfl⟩)
    · refine g_iconst (v := 1) hX dB_hasLock_12 (by decide) ?_
      refine g_goto hX 17 dB_hasLock_13 (by decide) ?_
      exact r_zret hX hQ (rfl) dB_hasLock_17 rfl (⟨by simp [hasLockS, c_1, c_9], rfl⟩)
set_option maxHeartbeats 4000000 in
set_option maxRecDepth 20000 in
theorem con_B_hasPerson (l : Launch) (Z : ZZ) (h : Nat) (q : Nat → Nat) (S : St) (x : Int32) : Con l Z yB_hasPerson cB_hasPerson 2 (some .boolean) 0 [.ref h, .int x] (wB Z h q S) (Fn (some (.int (hasPersonS S x))) (wB Z h q S)) := by
  refine Con.of (by decide) (Nat.le_of_ble_eq_true rfl) (fun X hX hQ => ?_)
  show G X Z (wB Z h q S) 0 [(0, .ref h), (1, .int x)] []
  refine g_iload_n hX dB_hasPerson_0 1 rfl ?_
  refine g_if_lt hX 16 dB_hasPerson_1 (by decide) (fun c_1 => ?_) (fun c_1 => ?_)
  · refine g_iconst (v := 0) hX dB_hasPerson_16 (by decide) ?_
    exact r_zret hX hQ (rfl) dB_hasPerson_17 rfl (⟨by simp [hasPersonS, c_1], rfl⟩)
  · refine g_iload_n hX dB_hasPerson_4 1 rfl ?_
    refine g_aload_n hX dB_hasPerson_5 0 rfl ?_
    refine g_get hX 0 rfl rfl 12 (by decide) uu_B q_60 rfl rfl dB_hasPerson_6 ?_
    refine g_icmp_ge hX 16 dB_hasPerson_9 (by decide) (fun c_9 => ?_) (fun c_9 => ?_)
    · refine g_iconst (v := 0) hX dB_hasPerson_16 (by decide) ?_
      exact r_zret hX hQ (rfl) dB_hasPerson_17 rfl (⟨by simp [hasPersonS, c_1, c_9], rfl⟩)
    · refine g_iconst (v := 1) hX dB_hasPerson_12 (by decide) ?_
      refine g_goto hX 17 dB_hasPerson_13 (by decide) ?_
      exact r_zret hX hQ (rfl) dB_hasPerson_17 rfl (⟨by simp [hasPersonS, c_1, c_9], rfl⟩)
set_option maxHeartbeats 4000000 in
set_option maxRecDepth 20000 in
theorem con_B_peopleAt (l : Launch) (Z : ZZ) (h : Nat) (q : Nat → Nat) (S : St) (r : Int32) (nP : Nat) (hP : S 12 1 = nI nP) (hP5 : nP ≤ 5) : Con l Z yB_peopleAt cB_peopleAt 4 (some .int) 0 [.ref h, .int r] (wB Z h q S) (Fn (some (.int (cnt (S 8) r nP))) (wB Z h q S)) := by
  refine Con.of (by decide) (Nat.le_of_ble_eq_true rfl) (fun X hX hQ => ?_)
  show G X Z (wB Z h q S) 0 [(0, .ref h), (1, .int r)] []
  refine g_iconst (v := 0) hX dB_peopleAt_0 (by decide) ?_
  refine g_istore_n (lv1 := [(0, .ref h), (1, .int r), (2, .int 0)]) hX dB_peopleAt_1 (by decide) [1, 2, 0] rfl ?_
  refine g_iconst (v := 0) hX dB_peopleAt_2 (by decide) ?_
  refine g_istore_n (lv1 := [(0, .ref h), (1, .int r), (2, .int 0), (3, .int 0)]) hX dB_peopleAt_3 (by decide) [1, 2, 3, 0] rfl ?_
  have hL_4 : ∀ i, i ≤ nP → G X Z (wB Z h q S) 4 [(0, .ref h), (1, .int r), (2, .int (cnt (S 8) r i)), (3, .int (nI i))] [] := by
    refine loopUp _ nP ?_ (fun i hi_i ih_i => ?_)
    · skip
      refine g_iload_n hX dB_peopleAt_4 3 rfl ?_
      refine g_aload_n hX dB_peopleAt_5 0 rfl ?_
      refine g_get hX 0 rfl rfl 12 (by decide) uu_B q_60 rfl rfl dB_peopleAt_6 ?_
      refine g_top (y := (nI nP)) (hP) ?_
      refine g_icmp_ge hX 31 dB_peopleAt_9 (by decide) (fun c_9 => ?_) (fun c_9 => absurd (nI_le (a := nP) (b := nP) (Nat.le_refl _) (by omega)) c_9)
      refine g_iload_n hX dB_peopleAt_31 2 rfl ?_
      exact r_iret hX hQ dB_peopleAt_32 rfl (⟨rfl, rfl⟩)
    · skip
      refine g_iload_n hX dB_peopleAt_4 3 rfl ?_
      refine g_aload_n hX dB_peopleAt_5 0 rfl ?_
      refine g_get hX 0 rfl rfl 12 (by decide) uu_B q_60 rfl rfl dB_peopleAt_6 ?_
      refine g_top (y := (nI nP)) (hP) ?_
      refine g_icmp_ge hX 31 dB_peopleAt_9 (by decide) (fun c_9 => absurd c_9 (nI_ge (a := i) (b := nP) hi_i (by omega))) (fun c_9 => ?_)
      refine g_aload_n hX dB_peopleAt_12 0 rfl ?_
      refine g_get hX 0 rfl rfl 9 (by decide) uu_B q_54 rfl rfl dB_peopleAt_13 ?_
      refine g_iload_n hX dB_peopleAt_16 3 rfl ?_
      refine g_ald (v := (S 8 i)) hX 9 rfl i (by omega) (by decide) (rfl) (rfl) dB_peopleAt_17 ?_
      refine g_iload_n hX dB_peopleAt_18 1 rfl ?_
      refine g_icmp_ne hX 25 dB_peopleAt_19 (by decide) (fun c_19 => ?_) (fun c_19 => ?_)
      · refine g_iinc (v := (nI (i + 1))) (lv1 := [(0, .ref h), (1, .int r), (2, .int (cnt (S 8) r i)), (3, .int (nI (i + 1)))]) hX dB_peopleAt_25 3 rfl (inc_nat _) (by decide) [1, 2, 3, 0] rfl ?_
        refine g_goto hX 4 dB_peopleAt_28 (by decide) ?_
        have e_2 : (cnt (S 8) r i) = (cnt (S 8) r (i + 1)) := by simp [cnt, c_9, c_19]
        exact g_eq (rfl) (by rw [e_2]) rfl ih_i
      · refine g_iinc (v := ((cnt (S 8) r i) + 1)) (lv1 := [(0, .ref h), (1, .int r), (2, .int ((cnt (S 8) r i) + 1)), (3, .int (nI i))]) hX dB_peopleAt_22 2 rfl (inc_raw _) (by decide) [1, 2, 0, 3] rfl ?_
        refine g_iinc (v := (nI (i + 1))) (lv1 := [(0, .ref h), (1, .int r), (2, .int ((cnt (S 8) r i) + 1)), (3, .int (nI (i + 1)))]) hX dB_peopleAt_25 3 rfl (inc_nat _) (by decide) [1, 2, 3, 0] rfl ?_
        refine g_goto hX 4 dB_peopleAt_28 (by decide) ?_
        have e_2 : ((cnt (S 8) r i) + 1) = (cnt (S 8) r (i + 1)) := by simp [cnt, c_9, c_19]
        exact g_eq (rfl) (by rw [e_2]) rfl ih_i
  exact hL_4 0 (Nat.zero_le _)
set_option maxHeartbeats 4000000 in
set_option maxRecDepth 20000 in
theorem con_B_breathIn (l : Launch) (Z : ZZ) (h : Nat) (q : Nat → Nat) (S : St) (r : Int32) (nP : Nat) (hP : S 12 1 = nI nP) (hP5 : nP ≤ 5) : Con l Z yB_breathIn cB_breathIn 5 (some .int) 1 [.ref h, .int r] (wB Z h q S) (Fn (some (.int (breathInS S nP r))) (wB Z h q S)) := by
  refine Con.of (by decide) (Nat.le_of_ble_eq_true rfl) (fun X hX hQ => ?_)
  show G X Z (wB Z h q S) 0 [(0, .ref h), (1, .int r)] []
  refine g_aload_n hX dB_breathIn_0 0 rfl ?_
  refine g_iload_n hX dB_breathIn_1 1 rfl ?_
  refine g_callV hX (con_B_peopleAt l Z h q S r nP hP hP5) mvB_peopleAt q_327 rfl (by decide) 0 rfl rfl rfl (Nat.le_of_ble_eq_true rfl) dB_breathIn_2 [0, 1, 2, 3, 4, 5, 6, 7, 8, 9, 10, 11, 12] rfl rfl (g_fn (ws1 := wB Z h q S) (st1 := [.int (cnt (S 8) r nP)]) rfl rfl ?_)
  refine g_iconst (v := 1) hX dB_breathIn_5 (by decide) ?_
  have hJ_14 : G X Z (wB Z h q S) 14 [(0, .ref h), (1, .int r)] [.int (al (cnt (S 8) r nP))] := by
    refine g_istore_n (lv1 := [(0, .ref h), (1, .int r), (2, .int (al (cnt (S 8) r nP)))]) hX dB_breathIn_14 (by decide) [1, 2, 0] rfl ?_
    refine g_iconst (v := 0) hX dB_breathIn_15 (by decide) ?_
    refine g_istore_n (lv1 := [(0, .ref h), (1, .int r), (2, .int (al (cnt (S 8) r nP))), (3, .int 0)]) hX dB_breathIn_16 (by decide) [1, 2, 3, 0] rfl ?_
    refine g_iconst (v := 0) hX dB_breathIn_17 (by decide) ?_
    refine g_istore (lv1 := [(0, .ref h), (1, .int r), (2, .int (al (cnt (S 8) r nP))), (3, .int 0), (4, .int 0)]) hX dB_breathIn_18 (by decide) [1, 2, 3, 4, 0] rfl ?_
    have hL_20 : ∀ i, i ≤ nP → G X Z (wB Z h q S) 20 [(0, .ref h), (1, .int r), (2, .int (al (cnt (S 8) r nP))), (3, .int (bsum S r (al (cnt (S 8) r nP)) i)), (4, .int (nI i))] [] := by
      refine loopUp _ nP ?_ (fun i hi_i ih_i => ?_)
      · skip
        refine g_iload hX dB_breathIn_20 4 rfl ?_
        refine g_aload_n hX dB_breathIn_22 0 rfl ?_
        refine g_get hX 0 rfl rfl 12 (by decide) uu_B q_60 rfl rfl dB_breathIn_23 ?_
        refine g_top (y := (nI nP)) (hP) ?_
        refine g_icmp_ge hX 60 dB_breathIn_26 (by decide) (fun c_26 => ?_) (fun c_26 => absurd (nI_le (a := nP) (b := nP) (Nat.le_refl _) (by omega)) c_26)
        refine g_iload_n hX dB_breathIn_60 3 rfl ?_
        exact r_iret hX hQ dB_breathIn_61 rfl (⟨rfl, rfl⟩)
      · skip
        refine g_iload hX dB_breathIn_20 4 rfl ?_
        refine g_aload_n hX dB_breathIn_22 0 rfl ?_
        refine g_get hX 0 rfl rfl 12 (by decide) uu_B q_60 rfl rfl dB_breathIn_23 ?_
        refine g_top (y := (nI nP)) (hP) ?_
        refine g_icmp_ge hX 60 dB_breathIn_26 (by decide) (fun c_26 => absurd c_26 (nI_ge (a := i) (b := nP) hi_i (by omega))) (fun c_26 => ?_)
        refine g_aload_n hX dB_breathIn_29 0 rfl ?_
        refine g_get hX 0 rfl rfl 9 (by decide) uu_B q_54 rfl rfl dB_breathIn_30 ?_
        refine g_iload hX dB_breathIn_33 4 rfl ?_
        refine g_ald (v := (S 8 i)) hX 9 rfl i (by omega) (by decide) (rfl) (rfl) dB_breathIn_35 ?_
        refine g_iload_n hX dB_breathIn_36 1 rfl ?_
        refine g_icmp_ne hX 54 dB_breathIn_37 (by decide) (fun c_37 => ?_) (fun c_37 => ?_)
        · refine g_iinc (v := (nI (i + 1))) (lv1 := [(0, .ref h), (1, .int r), (2, .int (al (cnt (S 8) r nP))), (3, .int (bsum S r (al (cnt (S 8) r nP)) i)), (4, .int (nI (i + 1)))]) hX dB_breathIn_54 4 rfl (inc_nat _) (by decide) [1, 2, 3, 4, 0] rfl ?_
          refine g_goto hX 20 dB_breathIn_57 (by decide) ?_
          have e_3 : (bsum S r (al (cnt (S 8) r nP)) i) = (bsum S r (al (cnt (S 8) r nP)) (i + 1)) := by simp [bsum, c_26, c_37]
          exact g_eq (rfl) (by rw [e_3]) rfl ih_i
        · refine g_iload_n hX dB_breathIn_40 3 rfl ?_
          refine g_aload_n hX dB_breathIn_41 0 rfl ?_
          refine g_get hX 0 rfl rfl 8 (by decide) uu_B q_52 rfl rfl dB_breathIn_42 ?_
          refine g_iload hX dB_breathIn_45 4 rfl ?_
          refine g_ald (v := (S 7 i)) hX 8 rfl i (by omega) (by decide) (rfl) (rfl) dB_breathIn_47 ?_
          refine g_iload_n hX dB_breathIn_48 2 rfl ?_
          refine g_callN hX (con_X_breathOfKind l Z (S 7 i) (al (cnt (S 8) r nP))) msX_breathOfKind (fun U H hE => hE.1.2.2.2.1) rfl (by decide) rfl (Nat.le_of_ble_eq_true rfl) dB_breathIn_49 [] rfl rfl (g_fn (ws1 := wB Z h q S) (st1 := [.int (bk (S 7 i) (al (cnt (S 8) r nP))), .int (bsum S r (al (cnt (S 8) r nP)) i)]) rfl rfl ?_)
          refine g_iadd (z := ((bsum S r (al (cnt (S 8) r nP)) i) + (bk (S 7 i) (al (cnt (S 8) r nP))))) hX dB_breathIn_52 (rfl) ?_
          refine g_istore_n (lv1 := [(0, .ref h), (1, .int r), (2, .int (al (cnt (S 8) r nP))), (3, .int ((bsum S r (al (cnt (S 8) r nP)) i) + (bk (S 7 i) (al (cnt (S 8) r nP))))), (4, .int (nI i))]) hX dB_breathIn_53 (by decide) [1, 2, 3, 0, 4] rfl ?_
          refine g_iinc (v := (nI (i + 1))) (lv1 := [(0, .ref h), (1, .int r), (2, .int (al (cnt (S 8) r nP))), (3, .int ((bsum S r (al (cnt (S 8) r nP)) i) + (bk (S 7 i) (al (cnt (S 8) r nP))))), (4, .int (nI (i + 1)))]) hX dB_breathIn_54 4 rfl (inc_nat _) (by decide) [1, 2, 3, 4, 0] rfl ?_
          refine g_goto hX 20 dB_breathIn_57 (by decide) ?_
          have e_3 : ((bsum S r (al (cnt (S 8) r nP)) i) + (bk (S 7 i) (al (cnt (S 8) r nP)))) = (bsum S r (al (cnt (S 8) r nP)) (i + 1)) := by simp [bsum, c_26, c_37]
          exact g_eq (rfl) (by rw [e_3]) rfl ih_i
    exact hL_20 0 (Nat.zero_le _)
  refine g_icmp_ne hX 13 dB_breathIn_6 (by decide) (fun c_6 => ?_) (fun c_6 => ?_)
  · refine g_iconst (v := 0) hX dB_breathIn_13 (by decide) ?_
    refine g_top (y := (al (cnt (S 8) r nP))) (by simp [al, c_6]) ?_
    exact hJ_14
  · refine g_iconst (v := 1) hX dB_breathIn_9 (by decide) ?_
    refine g_goto hX 14 dB_breathIn_10 (by decide) ?_
    refine g_top (y := (al (cnt (S 8) r nP))) (by simp [al, c_6]) ?_
    exact hJ_14

section
-- ===== PART A: goes FIRST, ahead of the names: the tables' words, and 'selects' of the private methods out of them =====
/-- a private method of a class that the tables say can be made, by its rows of tables_1 -/
def lw_okq (q : MethodName × Nat) : Prop := (q.1.cls ≠ "java/lang/invoke/MethodHandle" ∧ q.1.cls ≠ "java/lang/invoke/VarHandle") ∧ Cond.instantiable q.1.cls q.2 ∈ tables_1 ∧ Cond.privateMethod q.1 ∈ tables_1 ∧ Cond.instanceMethod q.1 ∈ tables_1
theorem lw_p0 : lw_okq (⟨"NeverBothDoors", "refuse", "(I)I"⟩, 9) := ⟨⟨by decide +kernel, by decide +kernel⟩, List.mem_of_getElem? (i := 16) (by decide +kernel), List.mem_of_getElem? (i := 164) (by decide +kernel), List.mem_of_getElem? (i := 165) (by decide +kernel)⟩
theorem lw_p1 : lw_okq (⟨"NeverBothDoors", "readBurrow", "()I"⟩, 9) := ⟨⟨by decide +kernel, by decide +kernel⟩, List.mem_of_getElem? (i := 16) (by decide +kernel), List.mem_of_getElem? (i := 176) (by decide +kernel), List.mem_of_getElem? (i := 177) (by decide +kernel)⟩
theorem lw_p2 : lw_okq (⟨"NeverBothDoors$Text", "isDue", "(CI)Z"⟩, 2) := ⟨⟨by decide +kernel, by decide +kernel⟩, List.mem_of_getElem? (i := 102) (by decide +kernel), List.mem_of_getElem? (i := 252) (by decide +kernel), List.mem_of_getElem? (i := 253) (by decide +kernel)⟩
theorem lw_p3 : lw_okq (⟨"NeverBothDoors", "comesToMind", "(I)Z"⟩, 9) := ⟨⟨by decide +kernel, by decide +kernel⟩, List.mem_of_getElem? (i := 16) (by decide +kernel), List.mem_of_getElem? (i := 270) (by decide +kernel), List.mem_of_getElem? (i := 271) (by decide +kernel)⟩
theorem lw_p4 : lw_okq (⟨"NeverBothDoors$Ways", "join", "(III)V"⟩, 2) := ⟨⟨by decide +kernel, by decide +kernel⟩, List.mem_of_getElem? (i := 116) (by decide +kernel), List.mem_of_getElem? (i := 416) (by decide +kernel), List.mem_of_getElem? (i := 417) (by decide +kernel)⟩
theorem lw_p5 : lw_okq (⟨"NeverBothDoors$Ways", "shortenBy", "(I)V"⟩, 2) := ⟨⟨by decide +kernel, by decide +kernel⟩, List.mem_of_getElem? (i := 116) (by decide +kernel), List.mem_of_getElem? (i := 422) (by decide +kernel), List.mem_of_getElem? (i := 423) (by decide +kernel)⟩
theorem lw_p6 : lw_okq (⟨"NeverBothDoors", "bestNewLock", "()I"⟩, 9) := ⟨⟨by decide +kernel, by decide +kernel⟩, List.mem_of_getElem? (i := 16) (by decide +kernel), List.mem_of_getElem? (i := 450) (by decide +kernel), List.mem_of_getElem? (i := 451) (by decide +kernel)⟩
theorem lw_p7 : lw_okq (⟨"NeverBothDoors", "longestWith", "(I)I"⟩, 9) := ⟨⟨by decide +kernel, by decide +kernel⟩, List.mem_of_getElem? (i := 16) (by decide +kernel), List.mem_of_getElem? (i := 454) (by decide +kernel), List.mem_of_getElem? (i := 455) (by decide +kernel)⟩
theorem lw_p8 : lw_okq (⟨"NeverBothDoors$Ways", "goOnFrom", "(III)V"⟩, 2) := ⟨⟨by decide +kernel, by decide +kernel⟩, List.mem_of_getElem? (i := 116) (by decide +kernel), List.mem_of_getElem? (i := 472) (by decide +kernel), List.mem_of_getElem? (i := 473) (by decide +kernel)⟩
theorem lw_p9 : lw_okq (⟨"NeverBothDoors", "waysToLeak", "(I)I"⟩, 9) := ⟨⟨by decide +kernel, by decide +kernel⟩, List.mem_of_getElem? (i := 16) (by decide +kernel), List.mem_of_getElem? (i := 511) (by decide +kernel), List.mem_of_getElem? (i := 512) (by decide +kernel)⟩
theorem lw_p10 : lw_okq (⟨"NeverBothDoors", "roomsUnlikeTold", "(I)I"⟩, 9) := ⟨⟨by decide +kernel, by decide +kernel⟩, List.mem_of_getElem? (i := 16) (by decide +kernel), List.mem_of_getElem? (i := 515) (by decide +kernel), List.mem_of_getElem? (i := 516) (by decide +kernel)⟩
theorem lw_p11 : lw_okq (⟨"NeverBothDoors", "isAsTold", "(III)Z"⟩, 9) := ⟨⟨by decide +kernel, by decide +kernel⟩, List.mem_of_getElem? (i := 16) (by decide +kernel), List.mem_of_getElem? (i := 519) (by decide +kernel), List.mem_of_getElem? (i := 520) (by decide +kernel)⟩
theorem lw_p12 : lw_okq (⟨"NeverBothDoors", "wouldMakeAllSo", "(IIII)Z"⟩, 9) := ⟨⟨by decide +kernel, by decide +kernel⟩, List.mem_of_getElem? (i := 16) (by decide +kernel), List.mem_of_getElem? (i := 523) (by decide +kernel), List.mem_of_getElem? (i := 524) (by decide +kernel)⟩
theorem lw_p13 : lw_okq (⟨"NeverBothDoors", "firstToLeak", "(I)I"⟩, 9) := ⟨⟨by decide +kernel, by decide +kernel⟩, List.mem_of_getElem? (i := 16) (by decide +kernel), List.mem_of_getElem? (i := 527) (by decide +kernel), List.mem_of_getElem? (i := 528) (by decide +kernel)⟩
theorem lw_p14 : lw_okq (⟨"NeverBothDoors", "passToldInMind", "()I"⟩, 9) := ⟨⟨by decide +kernel, by decide +kernel⟩, List.mem_of_getElem? (i := 16) (by decide +kernel), List.mem_of_getElem? (i := 535) (by decide +kernel), List.mem_of_getElem? (i := 536) (by decide +kernel)⟩
theorem lw_p15 : lw_okq (⟨"NeverBothDoors", "passBySeeds", "(II)I"⟩, 9) := ⟨⟨by decide +kernel, by decide +kernel⟩, List.mem_of_getElem? (i := 16) (by decide +kernel), List.mem_of_getElem? (i := 551) (by decide +kernel), List.mem_of_getElem? (i := 552) (by decide +kernel)⟩
def lw_privs_1 : List (MethodName × Nat) := [(⟨"NeverBothDoors", "refuse", "(I)I"⟩, 9), (⟨"NeverBothDoors", "readBurrow", "()I"⟩, 9), (⟨"NeverBothDoors$Text", "isDue", "(CI)Z"⟩, 2), (⟨"NeverBothDoors", "comesToMind", "(I)Z"⟩, 9), (⟨"NeverBothDoors$Ways", "join", "(III)V"⟩, 2), (⟨"NeverBothDoors$Ways", "shortenBy", "(I)V"⟩, 2), (⟨"NeverBothDoors", "bestNewLock", "()I"⟩, 9), (⟨"NeverBothDoors", "longestWith", "(I)I"⟩, 9), (⟨"NeverBothDoors$Ways", "goOnFrom", "(III)V"⟩, 2), (⟨"NeverBothDoors", "waysToLeak", "(I)I"⟩, 9), (⟨"NeverBothDoors", "roomsUnlikeTold", "(I)I"⟩, 9), (⟨"NeverBothDoors", "isAsTold", "(III)Z"⟩, 9), (⟨"NeverBothDoors", "wouldMakeAllSo", "(IIII)Z"⟩, 9), (⟨"NeverBothDoors", "firstToLeak", "(I)I"⟩, 9), (⟨"NeverBothDoors", "passToldInMind", "()I"⟩, 9), (⟨"NeverBothDoors", "passBySeeds", "(II)I"⟩, 9)]
theorem lw_r1 : ∀ q ∈ lw_privs_1, lw_okq q := List.forall_mem_cons.mpr ⟨lw_p0, List.forall_mem_cons.mpr ⟨lw_p1, List.forall_mem_cons.mpr ⟨lw_p2, List.forall_mem_cons.mpr ⟨lw_p3, List.forall_mem_cons.mpr ⟨lw_p4, List.forall_mem_cons.mpr ⟨lw_p5, List.forall_mem_cons.mpr ⟨lw_p6, List.forall_mem_cons.mpr ⟨lw_p7, List.forall_mem_cons.mpr ⟨lw_p8, List.forall_mem_cons.mpr ⟨lw_p9, List.forall_mem_cons.mpr ⟨lw_p10, List.forall_mem_cons.mpr ⟨lw_p11, List.forall_mem_cons.mpr ⟨lw_p12, List.forall_mem_cons.mpr ⟨lw_p13, List.forall_mem_cons.mpr ⟨lw_p14, List.forall_mem_cons.mpr ⟨lw_p15, fun _ h => absurd h List.not_mem_nil⟩⟩⟩⟩⟩⟩⟩⟩⟩⟩⟩⟩⟩⟩⟩⟩
theorem lw_p16 : lw_okq (⟨"NeverBothDoorsModel", "no", "(I)I"⟩, 29) := ⟨⟨by decide +kernel, by decide +kernel⟩, List.mem_of_getElem? (i := 579) (by decide +kernel), List.mem_of_getElem? (i := 677) (by decide +kernel), List.mem_of_getElem? (i := 678) (by decide +kernel)⟩
theorem lw_p17 : lw_okq (⟨"NeverBothDoorsModel", "statement", "(Z)I"⟩, 29) := ⟨⟨by decide +kernel, by decide +kernel⟩, List.mem_of_getElem? (i := 579) (by decide +kernel), List.mem_of_getElem? (i := 685) (by decide +kernel), List.mem_of_getElem? (i := 686) (by decide +kernel)⟩
theorem lw_p18 : lw_okq (⟨"NeverBothDoorsModel", "is", "(I)Z"⟩, 29) := ⟨⟨by decide +kernel, by decide +kernel⟩, List.mem_of_getElem? (i := 579) (by decide +kernel), List.mem_of_getElem? (i := 689) (by decide +kernel), List.mem_of_getElem? (i := 690) (by decide +kernel)⟩
theorem lw_p19 : lw_okq (⟨"NeverBothDoorsModel", "number", "(II)Z"⟩, 29) := ⟨⟨by decide +kernel, by decide +kernel⟩, List.mem_of_getElem? (i := 579) (by decide +kernel), List.mem_of_getElem? (i := 693) (by decide +kernel), List.mem_of_getElem? (i := 694) (by decide +kernel)⟩
theorem lw_p20 : lw_okq (⟨"NeverBothDoorsModel", "isDigit", "()Z"⟩, 29) := ⟨⟨by decide +kernel, by decide +kernel⟩, List.mem_of_getElem? (i := 579) (by decide +kernel), List.mem_of_getElem? (i := 697) (by decide +kernel), List.mem_of_getElem? (i := 698) (by decide +kernel)⟩
theorem lw_p21 : lw_okq (⟨"NeverBothDoorsModel", "newLock", "(IIII)V"⟩, 29) := ⟨⟨by decide +kernel, by decide +kernel⟩, List.mem_of_getElem? (i := 579) (by decide +kernel), List.mem_of_getElem? (i := 701) (by decide +kernel), List.mem_of_getElem? (i := 702) (by decide +kernel)⟩
theorem lw_p22 : lw_okq (⟨"NeverBothDoorsModel", "keep", "([I)V"⟩, 29) := ⟨⟨by decide +kernel, by decide +kernel⟩, List.mem_of_getElem? (i := 579) (by decide +kernel), List.mem_of_getElem? (i := 766) (by decide +kernel), List.mem_of_getElem? (i := 767) (by decide +kernel)⟩
theorem lw_p23 : lw_okq (⟨"NeverBothDoorsModel", "again", "([I)V"⟩, 29) := ⟨⟨by decide +kernel, by decide +kernel⟩, List.mem_of_getElem? (i := 579) (by decide +kernel), List.mem_of_getElem? (i := 770) (by decide +kernel), List.mem_of_getElem? (i := 771) (by decide +kernel)⟩
theorem lw_p24 : lw_okq (⟨"NeverBothDoorsModel", "there", "(I)I"⟩, 29) := ⟨⟨by decide +kernel, by decide +kernel⟩, List.mem_of_getElem? (i := 579) (by decide +kernel), List.mem_of_getElem? (i := 781) (by decide +kernel), List.mem_of_getElem? (i := 782) (by decide +kernel)⟩
theorem lw_p25 : lw_okq (⟨"NeverBothDoorsModel", "breathed", "(I)I"⟩, 29) := ⟨⟨by decide +kernel, by decide +kernel⟩, List.mem_of_getElem? (i := 579) (by decide +kernel), List.mem_of_getElem? (i := 785) (by decide +kernel), List.mem_of_getElem? (i := 786) (by decide +kernel)⟩
theorem lw_p26 : lw_okq (⟨"NeverBothDoorsModel", "breath", "(I)I"⟩, 29) := ⟨⟨by decide +kernel, by decide +kernel⟩, List.mem_of_getElem? (i := 579) (by decide +kernel), List.mem_of_getElem? (i := 789) (by decide +kernel), List.mem_of_getElem? (i := 790) (by decide +kernel)⟩
theorem lw_p27 : lw_okq (⟨"NeverBothDoorsModel", "isLock", "(I)Z"⟩, 29) := ⟨⟨by decide +kernel, by decide +kernel⟩, List.mem_of_getElem? (i := 579) (by decide +kernel), List.mem_of_getElem? (i := 797) (by decide +kernel), List.mem_of_getElem? (i := 798) (by decide +kernel)⟩
theorem lw_p28 : lw_okq (⟨"NeverBothDoorsModel", "isOne", "(I)Z"⟩, 29) := ⟨⟨by decide +kernel, by decide +kernel⟩, List.mem_of_getElem? (i := 579) (by decide +kernel), List.mem_of_getElem? (i := 805) (by decide +kernel), List.mem_of_getElem? (i := 806) (by decide +kernel)⟩
theorem lw_p29 : lw_okq (⟨"NeverBothDoorsModel", "canPass", "(II)Z"⟩, 29) := ⟨⟨by decide +kernel, by decide +kernel⟩, List.mem_of_getElem? (i := 579) (by decide +kernel), List.mem_of_getElem? (i := 817) (by decide +kernel), List.mem_of_getElem? (i := 818) (by decide +kernel)⟩
theorem lw_p30 : lw_okq (⟨"NeverBothDoorsModel", "pass", "(II)I"⟩, 29) := ⟨⟨by decide +kernel, by decide +kernel⟩, List.mem_of_getElem? (i := 579) (by decide +kernel), List.mem_of_getElem? (i := 821) (by decide +kernel), List.mem_of_getElem? (i := 822) (by decide +kernel)⟩
theorem lw_p31 : lw_okq (⟨"NeverBothDoorsModel", "goBy", "(I)I"⟩, 29) := ⟨⟨by decide +kernel, by decide +kernel⟩, List.mem_of_getElem? (i := 579) (by decide +kernel), List.mem_of_getElem? (i := 825) (by decide +kernel), List.mem_of_getElem? (i := 826) (by decide +kernel)⟩
def lw_privs_2 : List (MethodName × Nat) := [(⟨"NeverBothDoorsModel", "no", "(I)I"⟩, 29), (⟨"NeverBothDoorsModel", "statement", "(Z)I"⟩, 29), (⟨"NeverBothDoorsModel", "is", "(I)Z"⟩, 29), (⟨"NeverBothDoorsModel", "number", "(II)Z"⟩, 29), (⟨"NeverBothDoorsModel", "isDigit", "()Z"⟩, 29), (⟨"NeverBothDoorsModel", "newLock", "(IIII)V"⟩, 29), (⟨"NeverBothDoorsModel", "keep", "([I)V"⟩, 29), (⟨"NeverBothDoorsModel", "again", "([I)V"⟩, 29), (⟨"NeverBothDoorsModel", "there", "(I)I"⟩, 29), (⟨"NeverBothDoorsModel", "breathed", "(I)I"⟩, 29), (⟨"NeverBothDoorsModel", "breath", "(I)I"⟩, 29), (⟨"NeverBothDoorsModel", "isLock", "(I)Z"⟩, 29), (⟨"NeverBothDoorsModel", "isOne", "(I)Z"⟩, 29), (⟨"NeverBothDoorsModel", "canPass", "(II)Z"⟩, 29), (⟨"NeverBothDoorsModel", "pass", "(II)I"⟩, 29), (⟨"NeverBothDoorsModel", "goBy", "(I)I"⟩, 29)]
theorem lw_r2 : ∀ q ∈ lw_privs_2, lw_okq q := List.forall_mem_cons.mpr ⟨lw_p16, List.forall_mem_cons.mpr ⟨lw_p17, List.forall_mem_cons.mpr ⟨lw_p18, List.forall_mem_cons.mpr ⟨lw_p19, List.forall_mem_cons.mpr ⟨lw_p20, List.forall_mem_cons.mpr ⟨lw_p21, List.forall_mem_cons.mpr ⟨lw_p22, List.forall_mem_cons.mpr ⟨lw_p23, List.forall_mem_cons.mpr ⟨lw_p24, List.forall_mem_cons.mpr ⟨lw_p25, List.forall_mem_cons.mpr ⟨lw_p26, List.forall_mem_cons.mpr ⟨lw_p27, List.forall_mem_cons.mpr ⟨lw_p28, List.forall_mem_cons.mpr ⟨lw_p29, List.forall_mem_cons.mpr ⟨lw_p30, List.forall_mem_cons.mpr ⟨lw_p31, fun _ h => absurd h List.not_mem_nil⟩⟩⟩⟩⟩⟩⟩⟩⟩⟩⟩⟩⟩⟩⟩⟩
theorem lw_p32 : lw_okq (⟨"NeverBothDoorsModel", "walk", "(I)V"⟩, 29) := ⟨⟨by decide +kernel, by decide +kernel⟩, List.mem_of_getElem? (i := 579) (by decide +kernel), List.mem_of_getElem? (i := 856) (by decide +kernel), List.mem_of_getElem? (i := 857) (by decide +kernel)⟩
theorem lw_p33 : lw_okq (⟨"NeverBothDoorsModel", "canHave", "(I)Z"⟩, 29) := ⟨⟨by decide +kernel, by decide +kernel⟩, List.mem_of_getElem? (i := 579) (by decide +kernel), List.mem_of_getElem? (i := 888) (by decide +kernel), List.mem_of_getElem? (i := 889) (by decide +kernel)⟩
theorem lw_p34 : lw_okq (⟨"NeverBothDoorsModel", "isSo", "(I)Z"⟩, 29) := ⟨⟨by decide +kernel, by decide +kernel⟩, List.mem_of_getElem? (i := 579) (by decide +kernel), List.mem_of_getElem? (i := 901) (by decide +kernel), List.mem_of_getElem? (i := 902) (by decide +kernel)⟩
theorem lw_p35 : lw_okq (⟨"NeverBothDoorsModel", "judged", "()I"⟩, 29) := ⟨⟨by decide +kernel, by decide +kernel⟩, List.mem_of_getElem? (i := 579) (by decide +kernel), List.mem_of_getElem? (i := 909) (by decide +kernel), List.mem_of_getElem? (i := 910) (by decide +kernel)⟩
def lw_privs_3 : List (MethodName × Nat) := [(⟨"NeverBothDoorsModel", "walk", "(I)V"⟩, 29), (⟨"NeverBothDoorsModel", "canHave", "(I)Z"⟩, 29), (⟨"NeverBothDoorsModel", "isSo", "(I)Z"⟩, 29), (⟨"NeverBothDoorsModel", "judged", "()I"⟩, 29)]
theorem lw_r3 : ∀ q ∈ lw_privs_3, lw_okq q := List.forall_mem_cons.mpr ⟨lw_p32, List.forall_mem_cons.mpr ⟨lw_p33, List.forall_mem_cons.mpr ⟨lw_p34, List.forall_mem_cons.mpr ⟨lw_p35, fun _ h => absurd h List.not_mem_nil⟩⟩⟩⟩
def lw_privs : List (MethodName × Nat) := lw_privs_1 ++ (lw_privs_2 ++ (lw_privs_3))
def lw_tbl : List Cond := k2_sels lw_privs ++ tables_1
theorem lw_privs_ok : ∀ q ∈ lw_privs, lw_okq q := by
  show ∀ q ∈ lw_privs_1 ++ (lw_privs_2 ++ (lw_privs_3)), lw_okq q
  exact List.forall_mem_append.mpr ⟨lw_r1, List.forall_mem_append.mpr ⟨lw_r2, lw_r3⟩⟩
/-! the words of the tables that hold on, all of them: each contract speaks over these -/
def UW : List Cond := lw_tbl.filter goodWord
theorem uw_in {w : Cond} (i : Nat) (h : lw_tbl[i]? = some w) (g : goodWord w = true) : w ∈ UW := List.mem_filter.mpr ⟨List.mem_of_getElem? h, g⟩
theorem uw_good : ∀ w ∈ UW, (w.onTables && w.keeps) = true ∨ ∃ ty, w = .arrayClass ty := fun w h => good_of_word (List.mem_filter.mp h).2
theorem uw_goodIn (a b : Cond) (h : b ∈ UW) : GoodIn (a :: UW) (b :: UW) := fun w hw => by
  rcases List.mem_cons.mp hw with rfl | hw
  · exact ⟨List.mem_cons_of_mem _ h, uw_good _ h⟩
  · exact ⟨List.mem_cons_of_mem _ hw, uw_good _ hw⟩
theorem uw_goodL (b : Cond) (h : b ∈ UW) : GoodIn UW (b :: UW) := fun w hw => by
  rcases List.mem_cons.mp hw with rfl | hw
  · exact ⟨h, uw_good _ h⟩
  · exact ⟨hw, uw_good _ hw⟩
abbrev cX_init : ByteArray := prog_1_method_1_code
def yX_init : MethodName := ⟨"NeverBothDoors", "<init>", "()V"⟩
abbrev cX_air : ByteArray := prog_1_method_11_code
def yX_air : MethodName := ⟨"NeverBothDoors", "air", "(II)I"⟩
abbrev cX_bare : ByteArray := prog_1_method_20_code
def yX_bare : MethodName := ⟨"NeverBothDoors", "bare", "()I"⟩
abbrev cX_bestNewLock : ByteArray := prog_1_method_39_code
def yX_bestNewLock : MethodName := ⟨"NeverBothDoors", "bestNewLock", "()I"⟩
abbrev cX_breathOfKind : ByteArray := prog_1_method_38_code
def yX_breathOfKind : MethodName := ⟨"NeverBothDoors", "breathOfKind", "(IZ)I"⟩
abbrev cX_burrow : ByteArray := prog_1_method_3_code
def yX_burrow : MethodName := ⟨"NeverBothDoors", "burrow", "()I"⟩
abbrev cX_clear : ByteArray := prog_1_method_25_code
def yX_clear : MethodName := ⟨"NeverBothDoors", "clear", "()I"⟩
abbrev cX_comesToMind : ByteArray := prog_1_method_36_code
def yX_comesToMind : MethodName := ⟨"NeverBothDoors", "comesToMind", "(I)Z"⟩
abbrev cX_count : ByteArray := prog_1_method_29_code
def yX_count : MethodName := ⟨"NeverBothDoors", "count", "(I)I"⟩
abbrev cX_drawn : ByteArray := prog_1_method_49_code
def yX_drawn : MethodName := ⟨"NeverBothDoors", "drawn", "(II)I"⟩
abbrev cX_ends : ByteArray := prog_1_method_24_code
def yX_ends : MethodName := ⟨"NeverBothDoors", "ends", "()I"⟩
abbrev cX_errands : ByteArray := prog_1_method_18_code
def yX_errands : MethodName := ⟨"NeverBothDoors", "errands", "(II)I"⟩
abbrev cX_farthest : ByteArray := prog_1_method_16_code
def yX_farthest : MethodName := ⟨"NeverBothDoors", "farthest", "(I)I"⟩
abbrev cX_firstToLeak : ByteArray := prog_1_method_45_code
def yX_firstToLeak : MethodName := ⟨"NeverBothDoors", "firstToLeak", "(I)I"⟩
abbrev cX_fitted : ByteArray := prog_1_method_19_code
def yX_fitted : MethodName := ⟨"NeverBothDoors", "fitted", "()I"⟩
abbrev cX_gasps : ByteArray := prog_1_method_12_code
def yX_gasps : MethodName := ⟨"NeverBothDoors", "gasps", "(I)I"⟩
abbrev cX_gauges : ByteArray := prog_1_method_22_code
def yX_gauges : MethodName := ⟨"NeverBothDoors", "gauges", "(II)I"⟩
abbrev cX_image : ByteArray := prog_1_method_27_code
def yX_image : MethodName := ⟨"NeverBothDoors", "image", "()I"⟩
abbrev cX_isAsTold : ByteArray := prog_1_method_41_code
def yX_isAsTold : MethodName := ⟨"NeverBothDoors", "isAsTold", "(III)Z"⟩
abbrev cX_isPlace : ByteArray := prog_1_method_32_code
def yX_isPlace : MethodName := ⟨"NeverBothDoors", "isPlace", "(I)Z"⟩
abbrev cX_isRoom : ByteArray := prog_1_method_31_code
def yX_isRoom : MethodName := ⟨"NeverBothDoors", "isRoom", "(I)Z"⟩
abbrev cX_judge : ByteArray := prog_1_method_23_code
def yX_judge : MethodName := ⟨"NeverBothDoors", "judge", "()I"⟩
abbrev cX_kindOf : ByteArray := prog_1_method_37_code
def yX_kindOf : MethodName := ⟨"NeverBothDoors", "kindOf", "(I)I"⟩
abbrev cX_leak : ByteArray := prog_1_method_10_code
def yX_leak : MethodName := ⟨"NeverBothDoors", "leak", "(II)I"⟩
abbrev cX_letter : ByteArray := prog_1_method_2_code
def yX_letter : MethodName := ⟨"NeverBothDoors", "letter", "(I)I"⟩
abbrev cX_lock : ByteArray := prog_1_method_5_code
def yX_lock : MethodName := ⟨"NeverBothDoors", "lock", "(II)I"⟩
abbrev cX_longestWith : ByteArray := prog_1_method_40_code
def yX_longestWith : MethodName := ⟨"NeverBothDoors", "longestWith", "(I)I"⟩
abbrev cX_minutes : ByteArray := prog_1_method_9_code
def yX_minutes : MethodName := ⟨"NeverBothDoors", "minutes", "(I)I"⟩
abbrev cX_more : ByteArray := prog_1_method_17_code
def yX_more : MethodName := ⟨"NeverBothDoors", "more", "(I)I"⟩
abbrev cX_nextSeed : ByteArray := prog_1_method_48_code
def yX_nextSeed : MethodName := ⟨"NeverBothDoors", "nextSeed", "(I)I"⟩
abbrev cX_on : ByteArray := prog_1_method_28_code
def yX_on : MethodName := ⟨"NeverBothDoors", "on", "()I"⟩
abbrev cX_open : ByteArray := prog_1_method_7_code
def yX_open : MethodName := ⟨"NeverBothDoors", "open", "(II)I"⟩
abbrev cX_orNone : ByteArray := prog_1_method_33_code
def yX_orNone : MethodName := ⟨"NeverBothDoors", "orNone", "(I)I"⟩
abbrev cX_out : ByteArray := prog_1_method_13_code
def yX_out : MethodName := ⟨"NeverBothDoors", "out", "()I"⟩
abbrev cX_passBySeeds : ByteArray := prog_1_method_47_code
def yX_passBySeeds : MethodName := ⟨"NeverBothDoors", "passBySeeds", "(II)I"⟩
abbrev cX_passToldInMind : ByteArray := prog_1_method_46_code
def yX_passToldInMind : MethodName := ⟨"NeverBothDoors", "passToldInMind", "()I"⟩
abbrev cX_passes : ByteArray := prog_1_method_8_code
def yX_passes : MethodName := ⟨"NeverBothDoors", "passes", "(II)I"⟩
abbrev cX_person : ByteArray := prog_1_method_6_code
def yX_person : MethodName := ⟨"NeverBothDoors", "person", "(II)I"⟩
abbrev cX_readBurrow : ByteArray := prog_1_method_35_code
def yX_readBurrow : MethodName := ⟨"NeverBothDoors", "readBurrow", "()I"⟩
abbrev cX_refuse : ByteArray := prog_1_method_30_code
def yX_refuse : MethodName := ⟨"NeverBothDoors", "refuse", "(I)I"⟩
abbrev cX_room : ByteArray := prog_1_method_4_code
def yX_room : MethodName := ⟨"NeverBothDoors", "room", "(II)I"⟩
abbrev cX_roomsUnlikeTold : ByteArray := prog_1_method_42_code
def yX_roomsUnlikeTold : MethodName := ⟨"NeverBothDoors", "roomsUnlikeTold", "(I)I"⟩
abbrev cX_row : ByteArray := prog_1_method_21_code
def yX_row : MethodName := ⟨"NeverBothDoors", "row", "(I)I"⟩
abbrev cX_seeds : ByteArray := prog_1_method_26_code
def yX_seeds : MethodName := ⟨"NeverBothDoors", "seeds", "(II)I"⟩
abbrev cX_soonest : ByteArray := prog_1_method_15_code
def yX_soonest : MethodName := ⟨"NeverBothDoors", "soonest", "(I)I"⟩
abbrev cX_sum : ByteArray := prog_1_method_34_code
def yX_sum : MethodName := ⟨"NeverBothDoors", "sum", "([I)I"⟩
abbrev cX_way : ByteArray := prog_1_method_14_code
def yX_way : MethodName := ⟨"NeverBothDoors", "way", "(II)I"⟩
abbrev cX_waysToLeak : ByteArray := prog_1_method_44_code
def yX_waysToLeak : MethodName := ⟨"NeverBothDoors", "waysToLeak", "(I)I"⟩
abbrev cX_wouldMakeAllSo : ByteArray := prog_1_method_43_code
def yX_wouldMakeAllSo : MethodName := ⟨"NeverBothDoors", "wouldMakeAllSo", "(IIII)Z"⟩
abbrev cB_init : ByteArray := prog_2_method_1_code
def yB_init : MethodName := ⟨"NeverBothDoors$Burrow", "<init>", "()V"⟩
abbrev cB_airBehind : ByteArray := prog_2_method_13_code
def yB_airBehind : MethodName := ⟨"NeverBothDoors$Burrow", "airBehind", "(III)I"⟩
abbrev cB_become : ByteArray := prog_2_method_2_code
def yB_become : MethodName := ⟨"NeverBothDoors$Burrow", "become", "(LNeverBothDoors$Burrow;)V"⟩
abbrev cB_breathIn : ByteArray := prog_2_method_12_code
def yB_breathIn : MethodName := ⟨"NeverBothDoors$Burrow", "breathIn", "(I)I"⟩
abbrev cB_breathOf : ByteArray := prog_2_method_11_code
def yB_breathOf : MethodName := ⟨"NeverBothDoors$Burrow", "breathOf", "(I)I"⟩
abbrev cB_canPass : ByteArray := prog_2_method_16_code
def yB_canPass : MethodName := ⟨"NeverBothDoors$Burrow", "canPass", "(II)Z"⟩
abbrev cB_goThrough : ByteArray := prog_2_method_17_code
def yB_goThrough : MethodName := ⟨"NeverBothDoors$Burrow", "goThrough", "(II)V"⟩
abbrev cB_hasLock : ByteArray := prog_2_method_3_code
def yB_hasLock : MethodName := ⟨"NeverBothDoors$Burrow", "hasLock", "(I)Z"⟩
abbrev cB_hasPerson : ByteArray := prog_2_method_4_code
def yB_hasPerson : MethodName := ⟨"NeverBothDoors$Burrow", "hasPerson", "(I)Z"⟩
abbrev cB_leastBare : ByteArray := prog_2_method_18_code
def yB_leastBare : MethodName := ⟨"NeverBothDoors$Burrow", "leastBare", "()I"⟩
abbrev cB_liveMinute : ByteArray := prog_2_method_14_code
def yB_liveMinute : MethodName := ⟨"NeverBothDoors$Burrow", "liveMinute", "()I"⟩
abbrev cB_liveMinutes : ByteArray := prog_2_method_15_code
def yB_liveMinutes : MethodName := ⟨"NeverBothDoors$Burrow", "liveMinutes", "(I)I"⟩
abbrev cB_peopleAt : ByteArray := prog_2_method_10_code
def yB_peopleAt : MethodName := ⟨"NeverBothDoors$Burrow", "peopleAt", "(I)I"⟩
abbrev cB_peopleOfFit : ByteArray := prog_2_method_20_code
def yB_peopleOfFit : MethodName := ⟨"NeverBothDoors$Burrow", "peopleOfFit", "(II)I"⟩
abbrev cB_suitsAreEnoughBut : ByteArray := prog_2_method_19_code
def yB_suitsAreEnoughBut : MethodName := ⟨"NeverBothDoors$Burrow", "suitsAreEnoughBut", "(I)Z"⟩
abbrev cB_tellAir : ByteArray := prog_2_method_5_code
def yB_tellAir : MethodName := ⟨"NeverBothDoors$Burrow", "tellAir", "(II)Z"⟩
abbrev cB_tellLeak : ByteArray := prog_2_method_6_code
def yB_tellLeak : MethodName := ⟨"NeverBothDoors$Burrow", "tellLeak", "(II)Z"⟩
abbrev cB_tellLock : ByteArray := prog_2_method_7_code
def yB_tellLock : MethodName := ⟨"NeverBothDoors$Burrow", "tellLock", "(IIII)Z"⟩
abbrev cB_tellPerson : ByteArray := prog_2_method_8_code
def yB_tellPerson : MethodName := ⟨"NeverBothDoors$Burrow", "tellPerson", "(IIII)Z"⟩
abbrev cB_tellSuits : ByteArray := prog_2_method_9_code
def yB_tellSuits : MethodName := ⟨"NeverBothDoors$Burrow", "tellSuits", "(II)Z"⟩
abbrev cT_init : ByteArray := prog_3_method_1_code
def yT_init : MethodName := ⟨"NeverBothDoors$Text", "<init>", "()V"⟩
abbrev cT_add : ByteArray := prog_3_method_2_code
def yT_add : MethodName := ⟨"NeverBothDoors$Text", "add", "(I)V"⟩
abbrev cT_behindStatement : ByteArray := prog_3_method_7_code
def yT_behindStatement : MethodName := ⟨"NeverBothDoors$Text", "behindStatement", "(I)I"⟩
abbrev cT_digitAt : ByteArray := prog_3_method_4_code
def yT_digitAt : MethodName := ⟨"NeverBothDoors$Text", "digitAt", "(I)I"⟩
abbrev cT_isDue : ByteArray := prog_3_method_9_code
def yT_isDue : MethodName := ⟨"NeverBothDoors$Text", "isDue", "(CI)Z"⟩
abbrev cT_misformedAt : ByteArray := prog_3_method_6_code
def yT_misformedAt : MethodName := ⟨"NeverBothDoors$Text", "misformedAt", "()I"⟩
abbrev cT_numberAt : ByteArray := prog_3_method_5_code
def yT_numberAt : MethodName := ⟨"NeverBothDoors$Text", "numberAt", "(I)I"⟩
abbrev cT_shapeBehind : ByteArray := prog_3_method_8_code
def yT_shapeBehind : MethodName := ⟨"NeverBothDoors$Text", "shapeBehind", "(I)Ljava/lang/String;"⟩
abbrev cT_signAt : ByteArray := prog_3_method_3_code
def yT_signAt : MethodName := ⟨"NeverBothDoors$Text", "signAt", "(I)I"⟩
abbrev cW_init : ByteArray := prog_4_method_1_code
def yW_init : MethodName := ⟨"NeverBothDoors$Ways", "<init>", "()V"⟩
abbrev cW_errandsFrom : ByteArray := prog_4_method_8_code
def yW_errandsFrom : MethodName := ⟨"NeverBothDoors$Ways", "errandsFrom", "(II)I"⟩
abbrev cW_farthestRoom : ByteArray := prog_4_method_6_code
def yW_farthestRoom : MethodName := ⟨"NeverBothDoors$Ways", "farthestRoom", "()I"⟩
abbrev cW_goOnFrom : ByteArray := prog_4_method_9_code
def yW_goOnFrom : MethodName := ⟨"NeverBothDoors$Ways", "goOnFrom", "(III)V"⟩
abbrev cW_join : ByteArray := prog_4_method_3_code
def yW_join : MethodName := ⟨"NeverBothDoors$Ways", "join", "(III)V"⟩
abbrev cW_longestWith : ByteArray := prog_4_method_7_code
def yW_longestWith : MethodName := ⟨"NeverBothDoors$Ways", "longestWith", "(II)I"⟩
abbrev cW_measure : ByteArray := prog_4_method_2_code
def yW_measure : MethodName := ⟨"NeverBothDoors$Ways", "measure", "(LNeverBothDoors$Burrow;)V"⟩
abbrev cW_shortenBy : ByteArray := prog_4_method_4_code
def yW_shortenBy : MethodName := ⟨"NeverBothDoors$Ways", "shortenBy", "(I)V"⟩
abbrev cW_toAnyRoom : ByteArray := prog_4_method_5_code
def yW_toAnyRoom : MethodName := ⟨"NeverBothDoors$Ways", "toAnyRoom", "(I)I"⟩
abbrev cM_init : ByteArray := prog_6_method_1_code
def yM_init : MethodName := ⟨"NeverBothDoorsModel", "<init>", "()V"⟩
abbrev cM_again : ByteArray := prog_6_method_50_code
def yM_again : MethodName := ⟨"NeverBothDoorsModel", "again", "([I)V"⟩
abbrev cM_air : ByteArray := prog_6_method_29_code
def yM_air : MethodName := ⟨"NeverBothDoorsModel", "air", "(II)I"⟩
abbrev cM_bare : ByteArray := prog_6_method_40_code
def yM_bare : MethodName := ⟨"NeverBothDoorsModel", "bare", "()I"⟩
abbrev cM_breath : ByteArray := prog_6_method_17_code
def yM_breath : MethodName := ⟨"NeverBothDoorsModel", "breath", "(I)I"⟩
abbrev cM_breathed : ByteArray := prog_6_method_18_code
def yM_breathed : MethodName := ⟨"NeverBothDoorsModel", "breathed", "(I)I"⟩
abbrev cM_burrow : ByteArray := prog_6_method_15_code
def yM_burrow : MethodName := ⟨"NeverBothDoorsModel", "burrow", "()I"⟩
abbrev cM_canHave : ByteArray := prog_6_method_38_code
def yM_canHave : MethodName := ⟨"NeverBothDoorsModel", "canHave", "(I)Z"⟩
abbrev cM_canPass : ByteArray := prog_6_method_24_code
def yM_canPass : MethodName := ⟨"NeverBothDoorsModel", "canPass", "(II)Z"⟩
abbrev cM_clear : ByteArray := prog_6_method_47_code
def yM_clear : MethodName := ⟨"NeverBothDoorsModel", "clear", "()I"⟩
abbrev cM_count : ByteArray := prog_6_method_53_code
def yM_count : MethodName := ⟨"NeverBothDoorsModel", "count", "(I)I"⟩
abbrev cM_ends : ByteArray := prog_6_method_46_code
def yM_ends : MethodName := ⟨"NeverBothDoorsModel", "ends", "()I"⟩
abbrev cM_errands : ByteArray := prog_6_method_37_code
def yM_errands : MethodName := ⟨"NeverBothDoorsModel", "errands", "(II)I"⟩
abbrev cM_farthest : ByteArray := prog_6_method_35_code
def yM_farthest : MethodName := ⟨"NeverBothDoorsModel", "farthest", "(I)I"⟩
abbrev cM_fitted : ByteArray := prog_6_method_39_code
def yM_fitted : MethodName := ⟨"NeverBothDoorsModel", "fitted", "()I"⟩
abbrev cM_gasps : ByteArray := prog_6_method_30_code
def yM_gasps : MethodName := ⟨"NeverBothDoorsModel", "gasps", "(I)I"⟩
abbrev cM_gauges : ByteArray := prog_6_method_43_code
def yM_gauges : MethodName := ⟨"NeverBothDoorsModel", "gauges", "(II)I"⟩
abbrev cM_goBy : ByteArray := prog_6_method_19_code
def yM_goBy : MethodName := ⟨"NeverBothDoorsModel", "goBy", "(I)I"⟩
abbrev cM_has : ByteArray := prog_6_method_4_code
def yM_has : MethodName := ⟨"NeverBothDoorsModel", "has", "(II)Z"⟩
abbrev cM_image : ByteArray := prog_6_method_51_code
def yM_image : MethodName := ⟨"NeverBothDoorsModel", "image", "()I"⟩
abbrev cM_is : ByteArray := prog_6_method_10_code
def yM_is : MethodName := ⟨"NeverBothDoorsModel", "is", "(I)Z"⟩
abbrev cM_isDigit : ByteArray := prog_6_method_11_code
def yM_isDigit : MethodName := ⟨"NeverBothDoorsModel", "isDigit", "()Z"⟩
abbrev cM_isLock : ByteArray := prog_6_method_7_code
def yM_isLock : MethodName := ⟨"NeverBothDoorsModel", "isLock", "(I)Z"⟩
abbrev cM_isOne : ByteArray := prog_6_method_8_code
def yM_isOne : MethodName := ⟨"NeverBothDoorsModel", "isOne", "(I)Z"⟩
abbrev cM_isPlace : ByteArray := prog_6_method_6_code
def yM_isPlace : MethodName := ⟨"NeverBothDoorsModel", "isPlace", "(I)Z"⟩
abbrev cM_isRoom : ByteArray := prog_6_method_5_code
def yM_isRoom : MethodName := ⟨"NeverBothDoorsModel", "isRoom", "(I)Z"⟩
abbrev cM_isSo : ByteArray := prog_6_method_42_code
def yM_isSo : MethodName := ⟨"NeverBothDoorsModel", "isSo", "(I)Z"⟩
abbrev cM_judge : ByteArray := prog_6_method_45_code
def yM_judge : MethodName := ⟨"NeverBothDoorsModel", "judge", "()I"⟩
abbrev cM_judged : ByteArray := prog_6_method_44_code
def yM_judged : MethodName := ⟨"NeverBothDoorsModel", "judged", "()I"⟩
abbrev cM_keep : ByteArray := prog_6_method_49_code
def yM_keep : MethodName := ⟨"NeverBothDoorsModel", "keep", "([I)V"⟩
abbrev cM_leak : ByteArray := prog_6_method_28_code
def yM_leak : MethodName := ⟨"NeverBothDoorsModel", "leak", "(II)I"⟩
abbrev cM_letter : ByteArray := prog_6_method_9_code
def yM_letter : MethodName := ⟨"NeverBothDoorsModel", "letter", "(I)I"⟩
abbrev cM_lock : ByteArray := prog_6_method_21_code
def yM_lock : MethodName := ⟨"NeverBothDoorsModel", "lock", "(II)I"⟩
abbrev cM_minutes : ByteArray := prog_6_method_27_code
def yM_minutes : MethodName := ⟨"NeverBothDoorsModel", "minutes", "(I)I"⟩
abbrev cM_more : ByteArray := prog_6_method_36_code
def yM_more : MethodName := ⟨"NeverBothDoorsModel", "more", "(I)I"⟩
abbrev cM_newLock : ByteArray := prog_6_method_13_code
def yM_newLock : MethodName := ⟨"NeverBothDoorsModel", "newLock", "(IIII)V"⟩
abbrev cM_no : ByteArray := prog_6_method_2_code
def yM_no : MethodName := ⟨"NeverBothDoorsModel", "no", "(I)I"⟩
abbrev cM_number : ByteArray := prog_6_method_12_code
def yM_number : MethodName := ⟨"NeverBothDoorsModel", "number", "(II)Z"⟩
abbrev cM_on : ByteArray := prog_6_method_52_code
def yM_on : MethodName := ⟨"NeverBothDoorsModel", "on", "()I"⟩
abbrev cM_open : ByteArray := prog_6_method_23_code
def yM_open : MethodName := ⟨"NeverBothDoorsModel", "open", "(II)I"⟩
abbrev cM_out : ByteArray := prog_6_method_31_code
def yM_out : MethodName := ⟨"NeverBothDoorsModel", "out", "()I"⟩
abbrev cM_pass : ByteArray := prog_6_method_25_code
def yM_pass : MethodName := ⟨"NeverBothDoorsModel", "pass", "(II)I"⟩
abbrev cM_passes : ByteArray := prog_6_method_26_code
def yM_passes : MethodName := ⟨"NeverBothDoorsModel", "passes", "(II)I"⟩
abbrev cM_person : ByteArray := prog_6_method_22_code
def yM_person : MethodName := ⟨"NeverBothDoorsModel", "person", "(II)I"⟩
abbrev cM_room : ByteArray := prog_6_method_20_code
def yM_room : MethodName := ⟨"NeverBothDoorsModel", "room", "(II)I"⟩
abbrev cM_row : ByteArray := prog_6_method_41_code
def yM_row : MethodName := ⟨"NeverBothDoorsModel", "row", "(I)I"⟩
abbrev cM_seeds : ByteArray := prog_6_method_48_code
def yM_seeds : MethodName := ⟨"NeverBothDoorsModel", "seeds", "(II)I"⟩
abbrev cM_soonest : ByteArray := prog_6_method_34_code
def yM_soonest : MethodName := ⟨"NeverBothDoorsModel", "soonest", "(I)I"⟩
abbrev cM_statement : ByteArray := prog_6_method_14_code
def yM_statement : MethodName := ⟨"NeverBothDoorsModel", "statement", "(Z)I"⟩
abbrev cM_there : ByteArray := prog_6_method_16_code
def yM_there : MethodName := ⟨"NeverBothDoorsModel", "there", "(I)I"⟩
abbrev cM_walk : ByteArray := prog_6_method_32_code
def yM_walk : MethodName := ⟨"NeverBothDoorsModel", "walk", "(I)V"⟩
abbrev cM_way : ByteArray := prog_6_method_33_code
def yM_way : MethodName := ⟨"NeverBothDoorsModel", "way", "(II)I"⟩
abbrev cM_within : ByteArray := prog_6_method_3_code
def yM_within : MethodName := ⟨"NeverBothDoorsModel", "within", "(III)Z"⟩
abbrev cJC_highSurrogate : ByteArray := prog_7_method_28_code
def yJC_highSurrogate : MethodName := ⟨"java/lang/Character", "highSurrogate", "(I)C"⟩
abbrev cJC_isValidCodePoint : ByteArray := prog_7_method_11_code
def yJC_isValidCodePoint : MethodName := ⟨"java/lang/Character", "isValidCodePoint", "(I)Z"⟩
abbrev cJC_lowSurrogate : ByteArray := prog_7_method_29_code
def yJC_lowSurrogate : MethodName := ⟨"java/lang/Character", "lowSurrogate", "(I)C"⟩
abbrev cJI_bitCount : ByteArray := prog_8_method_49_code
def yJI_bitCount : MethodName := ⟨"java/lang/Integer", "bitCount", "(I)I"⟩
abbrev cJM_max : ByteArray := prog_9_method_65_code
def yJM_max : MethodName := ⟨"java/lang/Math", "max", "(II)I"⟩
abbrev cJM_min : ByteArray := prog_9_method_69_code
def yJM_min : MethodName := ⟨"java/lang/Math", "min", "(II)I"⟩
abbrev cJS_charAt : ByteArray := prog_10_method_56_code
def yJS_charAt : MethodName := ⟨"java/lang/String", "charAt", "(I)C"⟩
abbrev cJS_checkBoundsBeginEnd : ByteArray := prog_10_method_158_code
def yJS_checkBoundsBeginEnd : MethodName := ⟨"java/lang/String", "checkBoundsBeginEnd", "(III)V"⟩
abbrev cJS_checkIndex : ByteArray := prog_10_method_155_code
def yJS_checkIndex : MethodName := ⟨"java/lang/String", "checkIndex", "(II)V"⟩
abbrev cJS_coder : ByteArray := prog_10_method_152_code
def yJS_coder : MethodName := ⟨"java/lang/String", "coder", "()B"⟩
abbrev cJS_indexOf0 : ByteArray := prog_10_method_79_code
def yJS_indexOf0 : MethodName := ⟨"java/lang/String", "indexOf", "(I)I"⟩
abbrev cJS_indexOf1 : ByteArray := prog_10_method_80_code
def yJS_indexOf1 : MethodName := ⟨"java/lang/String", "indexOf", "(II)I"⟩
abbrev cJS_isEmpty : ByteArray := prog_10_method_55_code
def yJS_isEmpty : MethodName := ⟨"java/lang/String", "isEmpty", "()Z"⟩
abbrev cJS_isLatin1 : ByteArray := prog_10_method_154_code
def yJS_isLatin1 : MethodName := ⟨"java/lang/String", "isLatin1", "()Z"⟩
abbrev cJS_length : ByteArray := prog_10_method_54_code
def yJS_length : MethodName := ⟨"java/lang/String", "length", "()I"⟩
abbrev cJL_canEncode : ByteArray := prog_11_method_4_code
def yJL_canEncode : MethodName := ⟨"java/lang/StringLatin1", "canEncode", "(I)Z"⟩
abbrev cJL_charAt : ByteArray := prog_11_method_2_code
def yJL_charAt : MethodName := ⟨"java/lang/StringLatin1", "charAt", "([BI)C"⟩
abbrev cJL_indexOf : ByteArray := prog_11_method_22_code
def yJL_indexOf : MethodName := ⟨"java/lang/StringLatin1", "indexOf", "([BIII)I"⟩
abbrev cJL_indexOfChar : ByteArray := prog_11_method_23_code
def yJL_indexOfChar : MethodName := ⟨"java/lang/StringLatin1", "indexOfChar", "([BIII)I"⟩
abbrev cJU_charAt : ByteArray := prog_12_method_83_code
def yJU_charAt : MethodName := ⟨"java/lang/StringUTF16", "charAt", "([BI)C"⟩
abbrev cJU_checkBoundsBeginEnd : ByteArray := prog_12_method_93_code
def yJU_checkBoundsBeginEnd : MethodName := ⟨"java/lang/StringUTF16", "checkBoundsBeginEnd", "(II[B)V"⟩
abbrev cJU_checkIndex : ByteArray := prog_12_method_91_code
def yJU_checkIndex : MethodName := ⟨"java/lang/StringUTF16", "checkIndex", "(I[B)V"⟩
abbrev cJU_getChar : ByteArray := prog_12_method_5_code
def yJU_getChar : MethodName := ⟨"java/lang/StringUTF16", "getChar", "([BI)C"⟩
abbrev cJU_indexOf : ByteArray := prog_12_method_40_code
def yJU_indexOf : MethodName := ⟨"java/lang/StringUTF16", "indexOf", "([BIII)I"⟩
abbrev cJU_indexOfChar : ByteArray := prog_12_method_47_code
def yJU_indexOfChar : MethodName := ⟨"java/lang/StringUTF16", "indexOfChar", "([BIII)I"⟩
abbrev cJU_indexOfCharUnsafe : ByteArray := prog_12_method_48_code
def yJU_indexOfCharUnsafe : MethodName := ⟨"java/lang/StringUTF16", "indexOfCharUnsafe", "([BIII)I"⟩
abbrev cJU_indexOfSupplementary : ByteArray := prog_12_method_49_code
def yJU_indexOfSupplementary : MethodName := ⟨"java/lang/StringUTF16", "indexOfSupplementary", "([BIII)I"⟩
abbrev cJU_length : ByteArray := prog_12_method_6_code
def yJU_length : MethodName := ⟨"java/lang/StringUTF16", "length", "([B)I"⟩
abbrev cJA_fill : ByteArray := prog_14_method_103_code
def yJA_fill : MethodName := ⟨"java/util/Arrays", "fill", "([II)V"⟩
abbrev cJP_checkFromToIndex : ByteArray := prog_15_method_12_code
def yJP_checkFromToIndex : MethodName := ⟨"jdk/internal/util/Preconditions", "checkFromToIndex", "(IIILjava/util/function/BiFunction;)I"⟩
abbrev cJP_checkIndex : ByteArray := prog_15_method_11_code
def yJP_checkIndex : MethodName := ⟨"jdk/internal/util/Preconditions", "checkIndex", "(IILjava/util/function/BiFunction;)I"⟩
def RR_B : String := "NeverBothDoors$Burrow"
def FF_B : u_T := fun k => match k with
  | 0 => ("NeverBothDoors$Burrow", "air", "[I", true)
  | 1 => ("NeverBothDoors$Burrow", "leak", "[I", true)
  | 2 => ("NeverBothDoors$Burrow", "lesser", "[I", true)
  | 3 => ("NeverBothDoors$Burrow", "other", "[I", true)
  | 4 => ("NeverBothDoors$Burrow", "size", "[I", true)
  | 5 => ("NeverBothDoors$Burrow", "cycle", "[I", true)
  | 6 => ("NeverBothDoors$Burrow", "door", "[I", true)
  | 7 => ("NeverBothDoors$Burrow", "locks", "I", false)
  | 8 => ("NeverBothDoors$Burrow", "kind", "[I", true)
  | 9 => ("NeverBothDoors$Burrow", "place", "[I", true)
  | 10 => ("NeverBothDoors$Burrow", "fit", "[I", true)
  | 11 => ("NeverBothDoors$Burrow", "suit", "[I", true)
  | 12 => ("NeverBothDoors$Burrow", "people", "I", false)
  | 13 => ("NeverBothDoors$Burrow", "suits", "[I", true)
  | 14 => ("NeverBothDoors$Burrow", "minute", "I", false)
  | _ => ("NeverBothDoors$Burrow", "gasped", "I", false)
def tyF_B : Nat → FieldType := fun k => match k with
  | 0 => .array .int
  | 1 => .array .int
  | 2 => .array .int
  | 3 => .array .int
  | 4 => .array .int
  | 5 => .array .int
  | 6 => .array .int
  | 7 => .int
  | 8 => .array .int
  | 9 => .array .int
  | 10 => .array .int
  | 11 => .array .int
  | 12 => .int
  | 13 => .array .int
  | 14 => .int
  | _ => .int
abbrev uwF_B : List Cond := u_ws RR_B FF_B 16
theorem nmF_B : ∀ a, a < 16 → ∀ b, b < 16 → a ≠ b → (FF_B a).2.1 ≠ (FF_B b).2.1 := by decide +kernel
theorem tyF_B_ok : ∀ k, k < 16 → parseFieldDescriptor (FF_B k).2.2.1 = some (tyF_B k) := by decide +kernel
def RR_T : String := "NeverBothDoors$Text"
def FF_T : u_T := fun k => match k with
  | 0 => ("NeverBothDoors$Text", "signs", "[I", true)
  | _ => ("NeverBothDoors$Text", "length", "I", false)
def tyF_T : Nat → FieldType := fun k => match k with
  | 0 => .array .int
  | _ => .int
abbrev uwF_T : List Cond := u_ws RR_T FF_T 2
theorem nmF_T : ∀ a, a < 2 → ∀ b, b < 2 → a ≠ b → (FF_T a).2.1 ≠ (FF_T b).2.1 := by decide +kernel
theorem tyF_T_ok : ∀ k, k < 2 → parseFieldDescriptor (FF_T k).2.2.1 = some (tyF_T k) := by decide +kernel
def RR_W : String := "NeverBothDoors$Ways"
def FF_W : u_T := fun k => match k with
  | 0 => ("NeverBothDoors$Ways", "length", "[[I", true)
  | _ => ("NeverBothDoors$Ways", "errand", "[I", true)
def tyF_W : Nat → FieldType := fun k => match k with
  | 0 => .array (.array .int)
  | _ => .array .int
abbrev uwF_W : List Cond := u_ws RR_W FF_W 2
theorem nmF_W : ∀ a, a < 2 → ∀ b, b < 2 → a ≠ b → (FF_W a).2.1 ≠ (FF_W b).2.1 := by decide +kernel
theorem tyF_W_ok : ∀ k, k < 2 → parseFieldDescriptor (FF_W k).2.2.1 = some (tyF_W k) := by decide +kernel
def RR_X : String := "NeverBothDoors"
def FF_X : u_T := fun k => match k with
  | 0 => ("NeverBothDoors", "now", "LNeverBothDoors$Burrow;", true)
  | 1 => ("NeverBothDoors", "mind", "LNeverBothDoors$Burrow;", true)
  | 2 => ("NeverBothDoors", "kept", "LNeverBothDoors$Burrow;", true)
  | 3 => ("NeverBothDoors", "imageTaken", "Z", false)
  | 4 => ("NeverBothDoors", "text", "LNeverBothDoors$Text;", true)
  | 5 => ("NeverBothDoors", "ways", "LNeverBothDoors$Ways;", true)
  | 6 => ("NeverBothDoors", "told", "[I", true)
  | 7 => ("NeverBothDoors", "toldCount", "I", false)
  | _ => ("NeverBothDoors", "refusals", "[I", true)
def tyF_X : Nat → FieldType := fun k => match k with
  | 0 => .object "NeverBothDoors$Burrow"
  | 1 => .object "NeverBothDoors$Burrow"
  | 2 => .object "NeverBothDoors$Burrow"
  | 3 => .boolean
  | 4 => .object "NeverBothDoors$Text"
  | 5 => .object "NeverBothDoors$Ways"
  | 6 => .array .int
  | 7 => .int
  | _ => .array .int
abbrev uwF_X : List Cond := u_ws RR_X FF_X 9
theorem nmF_X : ∀ a, a < 9 → ∀ b, b < 9 → a ≠ b → (FF_X a).2.1 ≠ (FF_X b).2.1 := by decide +kernel
theorem tyF_X_ok : ∀ k, k < 9 → parseFieldDescriptor (FF_X k).2.2.1 = some (tyF_X k) := by decide +kernel
def RR_M : String := "NeverBothDoorsModel"
def FF_M : u_T := fun k => match k with
  | 0 => ("NeverBothDoorsModel", "air", "[I", true)
  | 1 => ("NeverBothDoorsModel", "leak", "[I", true)
  | 2 => ("NeverBothDoorsModel", "locks", "I", false)
  | 3 => ("NeverBothDoorsModel", "one", "[I", true)
  | 4 => ("NeverBothDoorsModel", "two", "[I", true)
  | 5 => ("NeverBothDoorsModel", "size", "[I", true)
  | 6 => ("NeverBothDoorsModel", "cycle", "[I", true)
  | 7 => ("NeverBothDoorsModel", "doors", "[I", true)
  | 8 => ("NeverBothDoorsModel", "people", "I", false)
  | 9 => ("NeverBothDoorsModel", "kind", "[I", true)
  | 10 => ("NeverBothDoorsModel", "place", "[I", true)
  | 11 => ("NeverBothDoorsModel", "fit", "[I", true)
  | 12 => ("NeverBothDoorsModel", "suit", "[I", true)
  | 13 => ("NeverBothDoorsModel", "minute", "I", false)
  | 14 => ("NeverBothDoorsModel", "suits", "[I", true)
  | 15 => ("NeverBothDoorsModel", "gasped", "I", false)
  | 16 => ("NeverBothDoorsModel", "letters", "I", false)
  | 17 => ("NeverBothDoorsModel", "letter", "[I", true)
  | 18 => ("NeverBothDoorsModel", "at", "I", false)
  | 19 => ("NeverBothDoorsModel", "value", "[I", true)
  | 20 => ("NeverBothDoorsModel", "inRow", "I", false)
  | 21 => ("NeverBothDoorsModel", "row", "[I", true)
  | 22 => ("NeverBothDoorsModel", "refusals", "[I", true)
  | 23 => ("NeverBothDoorsModel", "imaged", "Z", false)
  | 24 => ("NeverBothDoorsModel", "image", "[I", true)
  | 25 => ("NeverBothDoorsModel", "ahead", "[I", true)
  | 26 => ("NeverBothDoorsModel", "ways", "[I", true)
  | 27 => ("NeverBothDoorsModel", "least", "[I", true)
  | _ => ("NeverBothDoorsModel", "left", "[I", true)
def tyF_M : Nat → FieldType := fun k => match k with
  | 0 => .array .int
  | 1 => .array .int
  | 2 => .int
  | 3 => .array .int
  | 4 => .array .int
  | 5 => .array .int
  | 6 => .array .int
  | 7 => .array .int
  | 8 => .int
  | 9 => .array .int
  | 10 => .array .int
  | 11 => .array .int
  | 12 => .array .int
  | 13 => .int
  | 14 => .array .int
  | 15 => .int
  | 16 => .int
  | 17 => .array .int
  | 18 => .int
  | 19 => .array .int
  | 20 => .int
  | 21 => .array .int
  | 22 => .array .int
  | 23 => .boolean
  | 24 => .array .int
  | 25 => .array .int
  | 26 => .array .int
  | 27 => .array .int
  | _ => .array .int
abbrev uwF_M : List Cond := u_ws RR_M FF_M 29
theorem nmF_M : ∀ a, a < 29 → ∀ b, b < 29 → a ≠ b → (FF_M a).2.1 ≠ (FF_M b).2.1 := by decide +kernel
theorem tyF_M_ok : ∀ k, k < 29 → parseFieldDescriptor (FF_M k).2.2.1 = some (tyF_M k) := by decide +kernel
abbrev classes : List vw_C := [(RR_B, FF_B, 16), (RR_T, FF_T, 2), (RR_W, FF_W, 2), (RR_X, FF_X, 9), (RR_M, FF_M, 29)]
set_option maxRecDepth 20000 in
theorem uu_B : ∀ w ∈ uwF_B, w ∈ UW := fun w h => List.mem_filter.mpr ⟨(by decide +kernel : ∀ w ∈ uwF_B, w ∈ lw_tbl) w h, List.all_eq_true.mp (by decide +kernel : uwF_B.all goodWord = true) w h⟩
set_option maxRecDepth 20000 in
theorem uu_T : ∀ w ∈ uwF_T, w ∈ UW := fun w h => List.mem_filter.mpr ⟨(by decide +kernel : ∀ w ∈ uwF_T, w ∈ lw_tbl) w h, List.all_eq_true.mp (by decide +kernel : uwF_T.all goodWord = true) w h⟩
set_option maxRecDepth 20000 in
theorem uu_W : ∀ w ∈ uwF_W, w ∈ UW := fun w h => List.mem_filter.mpr ⟨(by decide +kernel : ∀ w ∈ uwF_W, w ∈ lw_tbl) w h, List.all_eq_true.mp (by decide +kernel : uwF_W.all goodWord = true) w h⟩
set_option maxRecDepth 20000 in
theorem uu_X : ∀ w ∈ uwF_X, w ∈ UW := fun w h => List.mem_filter.mpr ⟨(by decide +kernel : ∀ w ∈ uwF_X, w ∈ lw_tbl) w h, List.all_eq_true.mp (by decide +kernel : uwF_X.all goodWord = true) w h⟩
set_option maxRecDepth 20000 in
theorem uu_M : ∀ w ∈ uwF_M, w ∈ UW := fun w h => List.mem_filter.mpr ⟨(by decide +kernel : ∀ w ∈ uwF_M, w ∈ lw_tbl) w h, List.all_eq_true.mp (by decide +kernel : uwF_M.all goodWord = true) w h⟩
end
section
/-! THE CALCULUS: a judgement whose goal shows the world, the place, the locals and the stack alone; a row an instruction -/
abbrev ZZ : Type := va_G × ClassId × ClassId × (Nat → Nat) × (Nat → Nat) × (Nat → Prop)
abbrev zD (Z : ZZ) : va_G := Z.1
abbrev zI (Z : ZZ) : ClassId := Z.2.1
abbrev zJ (Z : ZZ) : ClassId := Z.2.2.1
abbrev zB (Z : ZZ) : Nat → Prop := Z.2.2.2.2.2
abbrev tys (Z : ZZ) : List (ClassId × FieldType) := [(zI Z, .int), (zJ Z, .array .int)]
-- the literals
def sOw : Nat → String := fun i => match i with
  | 5 => "NeverBothDoorsModel"
  | _ => "NeverBothDoors$Text"
def sIx : Nat → Nat := fun i => match i with
  | 0 => 50 | 1 => 52 | 2 => 54 | 3 => 56 | 4 => 58 | _ => 119
def sTx : Nat → String := fun i => match i with
  | 0 => "#,#??;" | 1 => "##;" | 2 => "####;" | 3 => "@##,#?;" | 4 => "" | _ => "pcwhts"
abbrev sByt : List (List Int32) := [[35, 44, 35, 63, 63, 59], [35, 35, 59], [35, 35, 35, 35, 59], [64, 35, 35, 44, 35, 63, 59], [], [112, 99, 119, 104, 116, 115]]
abbrev sLen : List Nat := [6, 3, 5, 7, 0, 6]
/-- what stays as it is: links between nest mates, the literals, two statics -/
def EN (Z : ZZ) (U : State) (H : Heap) : Prop :=
  (va_Nw (.methodLinkNest "NeverBothDoors$Text" 60 yX_kindOf "NeverBothDoors") U ∧ va_Nw (.methodLinkNest "NeverBothDoors$Burrow" 73 yX_isRoom "NeverBothDoors") U ∧ va_Nw (.methodLinkNest "NeverBothDoors$Burrow" 77 yX_isPlace "NeverBothDoors") U ∧ va_Nw (.methodLinkNest "NeverBothDoors$Burrow" 96 yX_breathOfKind "NeverBothDoors") U ∧ va_Nw (.methodLinkNest "NeverBothDoors$Ways" 44 yX_isPlace "NeverBothDoors") U) ∧
  (∀ i, i < 6 → vk_R (sOw i) (sIx i) (sTx i) (Z.2.2.2.1 i) U) ∧ vk_S 6 sLen sByt Z.2.2.2.1 Z.2.2.2.2.1 (zB Z) U H ∧ va_Z "java/lang/String" "COMPACT_STRINGS" "Z" (.int 1) (zB Z) U H ∧ va_Zq "jdk/internal/util/Preconditions" "SIOOBE_FORMATTER" "Ljava/util/function/BiFunction;" (zB Z) U H
theorem EN.kept {Z : ZZ} {U : State} {H H1 : Heap} (h : EN Z U H) (hq : ∀ a : Nat, a < H.size → ¬ zB Z a → H1[a]? = H[a]?) : EN Z U H1 :=
  ⟨h.1, h.2.1, h.2.2.1.kept hq, h.2.2.2.1.kept hq, h.2.2.2.2.kept hq⟩
theorem EN.warm {Z : ZZ} {s U : State} {H : Heap} (hW : s.WarmedH U.vm) (h : EN Z s H) : EN Z U H :=
  ⟨⟨va_Nw.warmM hW h.1.1, va_Nw.warmM hW h.1.2.1, va_Nw.warmM hW h.1.2.2.1, va_Nw.warmM hW h.1.2.2.2.1, va_Nw.warmM hW h.1.2.2.2.2⟩, fun i hi => (h.2.1 i hi).warm hW, h.2.2.1.moved hW.alike, h.2.2.2.1.moved hW.alike, h.2.2.2.2.moved hW.alike⟩
theorem EN.same {Z : ZZ} {u U : State} {H : Heap} (hv : U.vm = u.vm) (h : EN Z u H) : EN Z U H :=
  ⟨⟨va_Nw.same rfl hv.symm h.1.1, va_Nw.same rfl hv.symm h.1.2.1, va_Nw.same rfl hv.symm h.1.2.2.1, va_Nw.same rfl hv.symm h.1.2.2.2.1, va_Nw.same rfl hv.symm h.1.2.2.2.2⟩, fun i hi => (h.2.1 i hi).same hv, h.2.2.1.moved (by rw [hv]; exact Vm.Alike.refl _), h.2.2.2.1.moved (by rw [hv]; exact Vm.Alike.refl _), h.2.2.2.2.moved (by rw [hv]; exact Vm.Alike.refl _)⟩
-- worlds
theorem va_D_keys {A : Nat → Prop} {ws ws' : va_W} (hk : ws'.map (·.1) = ws.map (·.1)) (h : va_D A ws) : va_D A ws' := by
  have key : ∀ (k : Nat) (q : Nat × va_E), ws'[k]? = some q → ∃ q0, ws[k]? = some q0 ∧ q0.1 = q.1 := by
    intro k q hq
    have h1 : (ws'.map (·.1))[k]? = some q.1 := by rw [List.getElem?_map, hq]; rfl
    rw [hk, List.getElem?_map] at h1
    cases hw : ws[k]? with
    | none => rw [hw] at h1; cases h1
    | some q0 => rw [hw] at h1; exact ⟨q0, rfl, Option.some.inj h1⟩
  refine ⟨fun i j x y hi hj hxy => ?_, fun k q hq => ?_⟩
  · obtain ⟨x0, a1, a2⟩ := key i x hi
    obtain ⟨y0, b1, b2⟩ := key j y hj
    exact h.1 i j x0 y0 a1 b1 (a2.trans (hxy.trans b2.symm))
  · obtain ⟨q0, a1, a2⟩ := key k q hq
    rw [← a2]
    exact h.2 k q0 a1
def putW : va_W → List Nat → va_W → va_W
  | ws, i :: is, x :: xs => putW (ws.set i x) is xs
  | ws, _, _ => ws
theorem putW_P {D : va_G} {cl : List vw_C} {H1 : Heap} : ∀ (is : List Nat) (ws wc' : va_W), is.length = wc'.length → (∀ (k : Nat) (q : Nat × va_E), ws[k]? = some q → k ∉ is → va_at D cl q H1) → va_P D cl wc' H1 → va_P D cl (putW ws is wc') H1
  | [], ws, _, _, h, _ => by
    rw [show putW ws [] _ = ws from by cases ‹va_W› <;> rfl]
    exact fun k q hq => h k q hq (by simp)
  | i :: is, ws, [], hl, _, _ => by simp at hl
  | i :: is, ws, x :: xs, hl, h, hP => by
    show va_P D cl (putW (ws.set i x) is xs) H1
    refine putW_P is _ xs (by simpa using hl) (fun k q hq hk => ?_) (fun k q hq => hP (k + 1) q (by simpa using hq))
    by_cases hki : k = i
    · subst hki
      have hlt : k < ws.length := by
        have := (List.getElem?_eq_some_iff.mp hq).1
        simpa using this
      rw [List.getElem?_set_self hlt] at hq
      cases hq
      exact hP 0 x rfl
    · rw [List.getElem?_set_ne (Ne.symm hki)] at hq
      exact h k q hq (by simp [hki, hk])
theorem putW_keys : ∀ (is : List Nat) (ws wc' : va_W), is.map (fun i => (ws.map (·.1))[i]?) = wc'.map (fun q => some q.1) → (putW ws is wc').map (·.1) = ws.map (·.1)
  | [], ws, wc', _ => by rw [show putW ws [] wc' = ws from by cases wc' <;> rfl]
  | i :: is, ws, [], h => by simp at h
  | i :: is, ws, x :: xs, h => by
    rw [List.map_cons, List.map_cons] at h
    obtain ⟨h1, h2⟩ := List.cons.inj h
    have hs : (ws.set i x).map (·.1) = ws.map (·.1) := by
      rw [List.map_set]
      apply List.ext_getElem?
      intro k
      by_cases hk : k = i
      · subst hk
        rw [h1]
        have hlt : k < (ws.map (·.1)).length := (List.getElem?_eq_some_iff.mp h1).1
        rw [List.getElem?_set_self hlt]
      · rw [List.getElem?_set_ne (Ne.symm hk)]
    show (putW (ws.set i x) is xs).map (·.1) = _
    rw [putW_keys is _ xs (by rw [hs]; exact h2), hs]
-- contracts
abbrev rmD (d : Nat) : Room := { frames := d, cells := 0, slots := 0, locals := 37 * d }
def PcZ (Z : ZZ) (As : List Value) (ws : va_W) (sz : Nat) : Array Value → State → Prop := va_Pc As (fun U => U.heap.size = sz ∧ va_P (zD Z) classes ws U.heap ∧ va_K (zD Z) classes (tys Z) U ∧ va_D (zB Z) ws ∧ EN Z U U.heap ∧ ∀ q, sz ≤ q → zB Z q)
def QcZ (Z : ZZ) (ws : va_W) (sz : Nat) (Post : Option Value → va_W → Prop) : Array Value → State → Outcome → State → Prop := fun _ st oc t => (∃ (v : Option Value) (ws' : va_W), oc = .returned v ∧ Post v ws' ∧ ws'.map (·.1) = ws.map (·.1) ∧ va_P (zD Z) classes ws' t.heap) ∧ va_F (va_A ws sz) st t
def Con (l : Launch) (Z : ZZ) (y : MethodName) (b : ByteArray) (n : Nat) (ret : Option FieldType) (d : Nat) (As : List Value) (ws : va_W) (Post : Option Value → va_W → Prop) : Prop :=
  ∀ sz, Met l y (.code y b n ret :: UW) (rmD d) (PcZ Z As ws sz) (QcZ Z ws sz Post) 0 0 (va_A ws sz)
theorem PcZ.blind (Z : ZZ) (As : List Value) (ws : va_W) (sz : Nat) : FrameBlind (PcZ Z As ws sz) := fun a U g mk q => by
  obtain ⟨q0, q1, qP, qK, qD, qE, qB⟩ := q
  exact ⟨q0, q1, qP, va_K.moved (u := U) (U := U.calling g mk a) (Vm.Alike.refl U.vm) qK, qD, EN.same (u := U) rfl qE, qB⟩
-- the judgement
abbrev XX : Type := Program × Launch × Env × Room × State × MethodId × Array Value × List Frame × Method × Code × Nat × Nat × (State → Prop) × Nat × (Nat → Prop)
def G : XX → ZZ → va_W → Nat → List (Nat × Value) → List Value → Prop
  | (p, l, e, R, s, m, args, below, meth, c, kc, ks, Q, nL, A), Z, ws, pc, lv, st => ∀ (ls : Array Slot) (H : Heap) (locs : List Loc), lv_has ls nL lv → va_P (zD Z) classes ws H → va_D A ws → va_S A s.heap H locs → W p l e R s m args below meth c H locs kc ks Q (F0 m pc ls st)
/-- the standing facts of a body: its code, its class, its locals, its launch, its depth -/
def Okk : XX → ZZ → ByteArray → Nat → String → Launch → Nat → Prop
  | (p, l, e, R, s, m, args, below, meth, c, kc, ks, Q, nL, A), Z, cc, n, own, l0, d => p.tables.exec = Jvm.exec ∧ c.code = cc ∧ c.maxLocals = nL ∧ s.vm.findClass own = some m.cls ∧ (∀ w ∈ UW, w.before args s = true) ∧ va_K (zD Z) classes (tys Z) s ∧ (∀ q, s.heap.size ≤ q → A q) ∧ meth.locks = false ∧ EN Z s s.heap ∧ (∀ q, A q → zB Z q) ∧ (∀ q, s.heap.size ≤ q → zB Z q) ∧ (kc ≤ R.cells ∧ ks ≤ R.slots ∧ d ≤ R.frames ∧ 37 * d ≤ R.locals) ∧ n = nL ∧ l0 = l
/-- what a body's end must bring -/
def Ret : XX → ZZ → va_W → (Option Value → va_W → Prop) → Option FieldType → Prop
  | (_, _, _, _, s, _, args, below, meth, _, kc, ks, Q, _, A), Z, ws, Post, ret => Q = MQ below (QcZ Z ws s.heap.size Post) args s 0 0 A ∧ A = va_A ws s.heap.size ∧ meth.sig.returnType = ret ∧ kc = 0 ∧ ks = 0
theorem Con.of {l : Launch} {Z : ZZ} {y : MethodName} {b : ByteArray} {n : Nat} {ret : Option FieldType} {d : Nat} {As : List Value} {ws : va_W} {Post : Option Value → va_W → Prop} (hy : plainName y.cls = true) (hn : (lg_sl As).length ≤ n)
    (body : ∀ X : XX, Okk X Z b n y.cls l d → Ret X Z ws Post ret → G X Z ws 0 (lv_args 0 As) []) : Con l Z y b n ret d As ws Post := by
  intro sz
  refine Met.ofW (cc := b) (maxL := n) (ret := ret) hy rfl ?_
  intro p e s m args below meth c s₁ B hml hv
  obtain ⟨rfl, hsz, hP, hK, hD0, hE, hB⟩ := hv
  have hx := B.exec
  have hb := B.bytes
  have hr := B.returns
  have hts := atoms_spec (ws := .code y b n ret :: UW) B.pre
  have hown : s.vm.findClass y.cls = some m.cls := findClass_of_methodNamed B.named
  have hlocks := B.notSynchronized
  subst hsz
  have hg := body (p, l, e, rmD d, s, m, As.toArray, below, meth, c, 0, 0, MQ below (QcZ Z ws s.heap.size Post) As.toArray s 0 0 (va_A ws s.heap.size), n, va_A ws s.heap.size)
    ⟨hx, hb, hml, hown, fun w hw => hts w (List.mem_cons_of_mem _ hw), hK, fun q h => Or.inr h, hlocks, hE, fun q h => by
      rcases h with ⟨k, e9, h⟩ | h
      · exact hD0.2 k (q, e9) h
      · exact hB q h, hB, ⟨Nat.le_refl _, Nat.le_refl _, Nat.le_refl _, Nat.le_refl _⟩, rfl, rfl⟩
    ⟨rfl, rfl, hr, rfl, rfl⟩
  have hl := lv_entry As (n := n) hn
  rw [lg_entry_eq]
  exact hg _ s.heap [] hl hP hD0.self va_S.rf
end
section
/-! rows of the calculus: an instruction each -/
theorem g_iconst {X : XX} {Z : ZZ} {cc : ByteArray} {n : Nat} {own : String} {l0 : Launch} {d : Nat} {ws : va_W} {pc : Nat} {lv : List (Nat × Value)} {st : List Value} (hX : Okk X Z cc n own l0 d) {k : Int} {v : Int32} (hd : decode cc pc = .ok (.iconst k, 1)) (hv : Int32.ofInt k = v) (kk : G X Z ws (pc + 1) lv (.int v :: st)) : G X Z ws pc lv st := by
  obtain ⟨p, l, e, R, s, m, args, below, meth, c, kc, ks, Q, nL, A⟩ := X
  obtain ⟨hx, hb, hml, hown, hts, hK, hA, hlk, hE, hAB, hzB, hR, rfl, rfl⟩ := hX
  intro ls H locs h hP hD hS
  exact lv_iconst hx hb hd hv (kk ls H locs h hP hD hS)
theorem g_bipush {X : XX} {Z : ZZ} {cc : ByteArray} {n : Nat} {own : String} {l0 : Launch} {d : Nat} {ws : va_W} {pc : Nat} {lv : List (Nat × Value)} {st : List Value} (hX : Okk X Z cc n own l0 d) {k : Int} {v : Int32} (hd : decode cc pc = .ok (.bipush k, 2)) (hv : (Int8.ofInt k).toInt32 = v) (kk : G X Z ws (pc + 2) lv (.int v :: st)) : G X Z ws pc lv st := by
  obtain ⟨p, l, e, R, s, m, args, below, meth, c, kc, ks, Q, nL, A⟩ := X
  obtain ⟨hx, hb, hml, hown, hts, hK, hA, hlk, hE, hAB, hzB, hR, rfl, rfl⟩ := hX
  intro ls H locs h hP hD hS
  exact lv_bipush hx hb hd hv (kk ls H locs h hP hD hS)
theorem g_sipush {X : XX} {Z : ZZ} {cc : ByteArray} {n : Nat} {own : String} {l0 : Launch} {d : Nat} {ws : va_W} {pc : Nat} {lv : List (Nat × Value)} {st : List Value} (hX : Okk X Z cc n own l0 d) {k : Int} {v : Int32} (hd : decode cc pc = .ok (.sipush k, 3)) (hv : (Int16.ofInt k).toInt32 = v) (kk : G X Z ws (pc + 3) lv (.int v :: st)) : G X Z ws pc lv st := by
  obtain ⟨p, l, e, R, s, m, args, below, meth, c, kc, ks, Q, nL, A⟩ := X
  obtain ⟨hx, hb, hml, hown, hts, hK, hA, hlk, hE, hAB, hzB, hR, rfl, rfl⟩ := hX
  intro ls H locs h hP hD hS
  exact lv_sipush hx hb hd hv (kk ls H locs h hP hD hS)
theorem g_ldc {X : XX} {Z : ZZ} {cc : ByteArray} {n : Nat} {own : String} {l0 : Launch} {d : Nat} {ws : va_W} {pc : Nat} {lv : List (Nat × Value)} {st : List Value} (hX : Okk X Z cc n own l0 d) {k : Nat} {v : Int32} (hd : decode cc pc = .ok (.ldc k, 2)) (hc : Jvm.Cond.constant own k v ∈ UW) (kk : G X Z ws (pc + 2) lv (.int v :: st)) : G X Z ws pc lv st := by
  obtain ⟨p, l, e, R, s, m, args, below, meth, c, kc, ks, Q, nL, A⟩ := X
  obtain ⟨hx, hb, hml, hown, hts, hK, hA, hlk, hE, hAB, hzB, hR, rfl, rfl⟩ := hX
  intro ls H locs h hP hD hS
  exact lv_ldc hx hb hown (hts _ hc) hd (kk ls H locs h hP hD hS)
theorem g_ldcw {X : XX} {Z : ZZ} {cc : ByteArray} {n : Nat} {own : String} {l0 : Launch} {d : Nat} {ws : va_W} {pc : Nat} {lv : List (Nat × Value)} {st : List Value} (hX : Okk X Z cc n own l0 d) {k : Nat} {v : Int32} (hd : decode cc pc = .ok (.ldc_w k, 3)) (hc : Jvm.Cond.constant own k v ∈ UW) (kk : G X Z ws (pc + 3) lv (.int v :: st)) : G X Z ws pc lv st := by
  obtain ⟨p, l, e, R, s, m, args, below, meth, c, kc, ks, Q, nL, A⟩ := X
  obtain ⟨hx, hb, hml, hown, hts, hK, hA, hlk, hE, hAB, hzB, hR, rfl, rfl⟩ := hX
  intro ls H locs h hP hD hS
  exact lv_ldcw hx hb hown (hts _ hc) hd (kk ls H locs h hP hD hS)
theorem g_iload_n {X : XX} {Z : ZZ} {cc : ByteArray} {n : Nat} {own : String} {l0 : Launch} {d : Nat} {ws : va_W} {pc : Nat} {lv : List (Nat × Value)} {st : List Value} (hX : Okk X Z cc n own l0 d) {k : Fin 4} {x : Int32} (hd : decode cc pc = .ok (.iload_n k, 1)) (j : Nat) (hl : lv[j]? = some (k.val, .int x)) (kk : G X Z ws (pc + 1) lv (.int x :: st)) : G X Z ws pc lv st := by
  obtain ⟨p, l, e, R, s, m, args, below, meth, c, kc, ks, Q, nL, A⟩ := X
  obtain ⟨hx, hb, hml, hown, hts, hK, hA, hlk, hE, hAB, hzB, hR, rfl, rfl⟩ := hX
  intro ls H locs h hP hD hS
  exact lv_iload_n hx hb hd rfl (lv_at h j hl) (kk ls H locs h hP hD hS)
theorem g_iload {X : XX} {Z : ZZ} {cc : ByteArray} {n : Nat} {own : String} {l0 : Launch} {d : Nat} {ws : va_W} {pc : Nat} {lv : List (Nat × Value)} {st : List Value} (hX : Okk X Z cc n own l0 d) {i : Nat} {x : Int32} (hd : decode cc pc = .ok (.iload i, 2)) (j : Nat) (hl : lv[j]? = some (i, .int x)) (kk : G X Z ws (pc + 2) lv (.int x :: st)) : G X Z ws pc lv st := by
  obtain ⟨p, l, e, R, s, m, args, below, meth, c, kc, ks, Q, nL, A⟩ := X
  obtain ⟨hx, hb, hml, hown, hts, hK, hA, hlk, hE, hAB, hzB, hR, rfl, rfl⟩ := hX
  intro ls H locs h hP hD hS
  exact lv_iload hx hb hd (lv_at h j hl) (kk ls H locs h hP hD hS)
theorem g_istore_n {X : XX} {Z : ZZ} {cc : ByteArray} {n : Nat} {own : String} {l0 : Launch} {d : Nat} {ws : va_W} {pc : Nat} {lv : List (Nat × Value)} {st : List Value} (hX : Okk X Z cc n own l0 d) {k : Fin 4} {x : Int32} {lv1 : List (Nat × Value)} (hd : decode cc pc = .ok (.istore_n k, 1)) (hn : k.val < n) (kp : List Nat) (hl : lv_pick ((k.val, .int x) :: lv.filter (fun q => !(q.1 == k.val) && !(q.1 + 1 == k.val && q.2.category == 2))) kp = lv1) (kk : G X Z ws (pc + 1) lv1 st) : G X Z ws pc lv (.int x :: st) := by
  obtain ⟨p, l, e, R, s, m, args, below, meth, c, kc, ks, Q, nL, A⟩ := X
  obtain ⟨hx, hb, hml, hown, hts, hK, hA, hlk, hE, hAB, hzB, hR, rfl, rfl⟩ := hX
  intro ls H locs h hP hD hS
  exact lv_istore_n hx hb hd rfl h hn rfl (fun ls1 h1 => kk ls1 H locs (lv_sub h1 kp hl) hP hD hS)
theorem g_istore {X : XX} {Z : ZZ} {cc : ByteArray} {n : Nat} {own : String} {l0 : Launch} {d : Nat} {ws : va_W} {pc : Nat} {lv : List (Nat × Value)} {st : List Value} (hX : Okk X Z cc n own l0 d) {i : Nat} {x : Int32} {lv1 : List (Nat × Value)} (hd : decode cc pc = .ok (.istore i, 2)) (hn : i < n) (kp : List Nat) (hl : lv_pick ((i, .int x) :: lv.filter (fun q => !(q.1 == i) && !(q.1 + 1 == i && q.2.category == 2))) kp = lv1) (kk : G X Z ws (pc + 2) lv1 st) : G X Z ws pc lv (.int x :: st) := by
  obtain ⟨p, l, e, R, s, m, args, below, meth, c, kc, ks, Q, nL, A⟩ := X
  obtain ⟨hx, hb, hml, hown, hts, hK, hA, hlk, hE, hAB, hzB, hR, rfl, rfl⟩ := hX
  intro ls H locs h hP hD hS
  exact lv_istore hx hb hd h hn rfl (fun ls1 h1 => kk ls1 H locs (lv_sub h1 kp hl) hP hD hS)
theorem g_aload_n {X : XX} {Z : ZZ} {cc : ByteArray} {n : Nat} {own : String} {l0 : Launch} {d : Nat} {ws : va_W} {pc : Nat} {lv : List (Nat × Value)} {st : List Value} (hX : Okk X Z cc n own l0 d) {k : Fin 4} {x : Nat} (hd : decode cc pc = .ok (.aload_n k, 1)) (j : Nat) (hl : lv[j]? = some (k.val, .ref x)) (kk : G X Z ws (pc + 1) lv (.ref x :: st)) : G X Z ws pc lv st := by
  obtain ⟨p, l, e, R, s, m, args, below, meth, c, kc, ks, Q, nL, A⟩ := X
  obtain ⟨hx, hb, hml, hown, hts, hK, hA, hlk, hE, hAB, hzB, hR, rfl, rfl⟩ := hX
  intro ls H locs h hP hD hS
  exact lv_aload_n hx hb hd rfl (lv_at h j hl) (kk ls H locs h hP hD hS)
theorem g_aload {X : XX} {Z : ZZ} {cc : ByteArray} {n : Nat} {own : String} {l0 : Launch} {d : Nat} {ws : va_W} {pc : Nat} {lv : List (Nat × Value)} {st : List Value} (hX : Okk X Z cc n own l0 d) {i : Nat} {x : Nat} (hd : decode cc pc = .ok (.aload i, 2)) (j : Nat) (hl : lv[j]? = some (i, .ref x)) (kk : G X Z ws (pc + 2) lv (.ref x :: st)) : G X Z ws pc lv st := by
  obtain ⟨p, l, e, R, s, m, args, below, meth, c, kc, ks, Q, nL, A⟩ := X
  obtain ⟨hx, hb, hml, hown, hts, hK, hA, hlk, hE, hAB, hzB, hR, rfl, rfl⟩ := hX
  intro ls H locs h hP hD hS
  exact lv_aload hx hb hd (lv_at h j hl) (kk ls H locs h hP hD hS)
theorem g_astore_n {X : XX} {Z : ZZ} {cc : ByteArray} {n : Nat} {own : String} {l0 : Launch} {d : Nat} {ws : va_W} {pc : Nat} {lv : List (Nat × Value)} {st : List Value} (hX : Okk X Z cc n own l0 d) {k : Fin 4} {x : Nat} {lv1 : List (Nat × Value)} (hd : decode cc pc = .ok (.astore_n k, 1)) (hn : k.val < n) (kp : List Nat) (hl : lv_pick ((k.val, .ref x) :: lv.filter (fun q => !(q.1 == k.val) && !(q.1 + 1 == k.val && q.2.category == 2))) kp = lv1) (kk : G X Z ws (pc + 1) lv1 st) : G X Z ws pc lv (.ref x :: st) := by
  obtain ⟨p, l, e, R, s, m, args, below, meth, c, kc, ks, Q, nL, A⟩ := X
  obtain ⟨hx, hb, hml, hown, hts, hK, hA, hlk, hE, hAB, hzB, hR, rfl, rfl⟩ := hX
  intro ls H locs h hP hD hS
  exact lv_astore_n hx hb hd rfl h hn rfl (fun ls1 h1 => kk ls1 H locs (lv_sub h1 kp hl) hP hD hS)
theorem g_astore {X : XX} {Z : ZZ} {cc : ByteArray} {n : Nat} {own : String} {l0 : Launch} {d : Nat} {ws : va_W} {pc : Nat} {lv : List (Nat × Value)} {st : List Value} (hX : Okk X Z cc n own l0 d) {i : Nat} {x : Nat} {lv1 : List (Nat × Value)} (hd : decode cc pc = .ok (.astore i, 2)) (hn : i < n) (kp : List Nat) (hl : lv_pick ((i, .ref x) :: lv.filter (fun q => !(q.1 == i) && !(q.1 + 1 == i && q.2.category == 2))) kp = lv1) (kk : G X Z ws (pc + 2) lv1 st) : G X Z ws pc lv (.ref x :: st) := by
  obtain ⟨p, l, e, R, s, m, args, below, meth, c, kc, ks, Q, nL, A⟩ := X
  obtain ⟨hx, hb, hml, hown, hts, hK, hA, hlk, hE, hAB, hzB, hR, rfl, rfl⟩ := hX
  intro ls H locs h hP hD hS
  exact lv_astore hx hb hd h hn rfl (fun ls1 h1 => kk ls1 H locs (lv_sub h1 kp hl) hP hD hS)
theorem g_iinc {X : XX} {Z : ZZ} {cc : ByteArray} {n : Nat} {own : String} {l0 : Launch} {d : Nat} {ws : va_W} {pc : Nat} {lv : List (Nat × Value)} {st : List Value} (hX : Okk X Z cc n own l0 d) {i : Nat} {k : Int} {x v : Int32} {lv1 : List (Nat × Value)} (hd : decode cc pc = .ok (.iinc i k, 3)) (j : Nat) (hj : lv[j]? = some (i, .int x)) (hv : x + Int32.ofInt k = v) (hn : i < n) (kp : List Nat) (hl : lv_pick ((i, .int v) :: lv.filter (fun q => !(q.1 == i) && !(q.1 + 1 == i && q.2.category == 2))) kp = lv1) (kk : G X Z ws (pc + 3) lv1 st) : G X Z ws pc lv st := by
  obtain ⟨p, l, e, R, s, m, args, below, meth, c, kc, ks, Q, nL, A⟩ := X
  obtain ⟨hx, hb, hml, hown, hts, hK, hA, hlk, hE, hAB, hzB, hR, rfl, rfl⟩ := hX
  intro ls H locs h hP hD hS
  exact lv_iinc hx hb hd h hj hv hn rfl (fun ls1 h1 => kk ls1 H locs (lv_sub h1 kp hl) hP hD hS)
theorem g_iadd {X : XX} {Z : ZZ} {cc : ByteArray} {n : Nat} {own : String} {l0 : Launch} {d : Nat} {ws : va_W} {pc : Nat} {lv : List (Nat × Value)} {st : List Value} (hX : Okk X Z cc n own l0 d) {x y z : Int32} (hd : decode cc pc = .ok (.iadd, 1)) (hz : x + y = z) (kk : G X Z ws (pc + 1) lv (.int z :: st)) : G X Z ws pc lv (.int y :: .int x :: st) := by
  obtain ⟨p, l, e, R, s, m, args, below, meth, c, kc, ks, Q, nL, A⟩ := X
  obtain ⟨hx, hb, hml, hown, hts, hK, hA, hlk, hE, hAB, hzB, hR, rfl, rfl⟩ := hX
  intro ls H locs h hP hD hS
  subst hz
  exact lv_iadd hx hb hd (kk ls H locs h hP hD hS)
theorem g_isub {X : XX} {Z : ZZ} {cc : ByteArray} {n : Nat} {own : String} {l0 : Launch} {d : Nat} {ws : va_W} {pc : Nat} {lv : List (Nat × Value)} {st : List Value} (hX : Okk X Z cc n own l0 d) {x y z : Int32} (hd : decode cc pc = .ok (.isub, 1)) (hz : x - y = z) (kk : G X Z ws (pc + 1) lv (.int z :: st)) : G X Z ws pc lv (.int y :: .int x :: st) := by
  obtain ⟨p, l, e, R, s, m, args, below, meth, c, kc, ks, Q, nL, A⟩ := X
  obtain ⟨hx, hb, hml, hown, hts, hK, hA, hlk, hE, hAB, hzB, hR, rfl, rfl⟩ := hX
  intro ls H locs h hP hD hS
  subst hz
  exact lv_isub hx hb hd (kk ls H locs h hP hD hS)
theorem g_imul {X : XX} {Z : ZZ} {cc : ByteArray} {n : Nat} {own : String} {l0 : Launch} {d : Nat} {ws : va_W} {pc : Nat} {lv : List (Nat × Value)} {st : List Value} (hX : Okk X Z cc n own l0 d) {x y z : Int32} (hd : decode cc pc = .ok (.imul, 1)) (hz : x * y = z) (kk : G X Z ws (pc + 1) lv (.int z :: st)) : G X Z ws pc lv (.int y :: .int x :: st) := by
  obtain ⟨p, l, e, R, s, m, args, below, meth, c, kc, ks, Q, nL, A⟩ := X
  obtain ⟨hx, hb, hml, hown, hts, hK, hA, hlk, hE, hAB, hzB, hR, rfl, rfl⟩ := hX
  intro ls H locs h hP hD hS
  subst hz
  exact lv_imul hx hb hd (kk ls H locs h hP hD hS)
theorem g_iand {X : XX} {Z : ZZ} {cc : ByteArray} {n : Nat} {own : String} {l0 : Launch} {d : Nat} {ws : va_W} {pc : Nat} {lv : List (Nat × Value)} {st : List Value} (hX : Okk X Z cc n own l0 d) {x y z : Int32} (hd : decode cc pc = .ok (.iand, 1)) (hz : x &&& y = z) (kk : G X Z ws (pc + 1) lv (.int z :: st)) : G X Z ws pc lv (.int y :: .int x :: st) := by
  obtain ⟨p, l, e, R, s, m, args, below, meth, c, kc, ks, Q, nL, A⟩ := X
  obtain ⟨hx, hb, hml, hown, hts, hK, hA, hlk, hE, hAB, hzB, hR, rfl, rfl⟩ := hX
  intro ls H locs h hP hD hS
  subst hz
  exact lv_iand hx hb hd (kk ls H locs h hP hD hS)
theorem g_ior {X : XX} {Z : ZZ} {cc : ByteArray} {n : Nat} {own : String} {l0 : Launch} {d : Nat} {ws : va_W} {pc : Nat} {lv : List (Nat × Value)} {st : List Value} (hX : Okk X Z cc n own l0 d) {x y z : Int32} (hd : decode cc pc = .ok (.ior, 1)) (hz : x ||| y = z) (kk : G X Z ws (pc + 1) lv (.int z :: st)) : G X Z ws pc lv (.int y :: .int x :: st) := by
  obtain ⟨p, l, e, R, s, m, args, below, meth, c, kc, ks, Q, nL, A⟩ := X
  obtain ⟨hx, hb, hml, hown, hts, hK, hA, hlk, hE, hAB, hzB, hR, rfl, rfl⟩ := hX
  intro ls H locs h hP hD hS
  subst hz
  exact lv_ior hx hb hd (kk ls H locs h hP hD hS)
theorem g_ixor {X : XX} {Z : ZZ} {cc : ByteArray} {n : Nat} {own : String} {l0 : Launch} {d : Nat} {ws : va_W} {pc : Nat} {lv : List (Nat × Value)} {st : List Value} (hX : Okk X Z cc n own l0 d) {x y z : Int32} (hd : decode cc pc = .ok (.ixor, 1)) (hz : x ^^^ y = z) (kk : G X Z ws (pc + 1) lv (.int z :: st)) : G X Z ws pc lv (.int y :: .int x :: st) := by
  obtain ⟨p, l, e, R, s, m, args, below, meth, c, kc, ks, Q, nL, A⟩ := X
  obtain ⟨hx, hb, hml, hown, hts, hK, hA, hlk, hE, hAB, hzB, hR, rfl, rfl⟩ := hX
  intro ls H locs h hP hD hS
  subst hz
  exact lv_ixor hx hb hd (kk ls H locs h hP hD hS)
theorem g_idiv {X : XX} {Z : ZZ} {cc : ByteArray} {n : Nat} {own : String} {l0 : Launch} {d : Nat} {ws : va_W} {pc : Nat} {lv : List (Nat × Value)} {st : List Value} (hX : Okk X Z cc n own l0 d) {x y z : Int32} (hd : decode cc pc = .ok (.idiv, 1)) (hne : ¬ y = 0) (hz : x / y = z) (kk : G X Z ws (pc + 1) lv (.int z :: st)) : G X Z ws pc lv (.int y :: .int x :: st) := by
  obtain ⟨p, l, e, R, s, m, args, below, meth, c, kc, ks, Q, nL, A⟩ := X
  obtain ⟨hx, hb, hml, hown, hts, hK, hA, hlk, hE, hAB, hzB, hR, rfl, rfl⟩ := hX
  intro ls H locs h hP hD hS
  subst hz
  exact lv_idiv hx hb hd hne (kk ls H locs h hP hD hS)
theorem g_irem {X : XX} {Z : ZZ} {cc : ByteArray} {n : Nat} {own : String} {l0 : Launch} {d : Nat} {ws : va_W} {pc : Nat} {lv : List (Nat × Value)} {st : List Value} (hX : Okk X Z cc n own l0 d) {x y z : Int32} (hd : decode cc pc = .ok (.irem, 1)) (hne : ¬ y = 0) (hz : x - x / y * y = z) (kk : G X Z ws (pc + 1) lv (.int z :: st)) : G X Z ws pc lv (.int y :: .int x :: st) := by
  obtain ⟨p, l, e, R, s, m, args, below, meth, c, kc, ks, Q, nL, A⟩ := X
  obtain ⟨hx, hb, hml, hown, hts, hK, hA, hlk, hE, hAB, hzB, hR, rfl, rfl⟩ := hX
  intro ls H locs h hP hD hS
  subst hz
  exact lv_irem hx hb hd hne (kk ls H locs h hP hD hS)
theorem g_ineg {X : XX} {Z : ZZ} {cc : ByteArray} {n : Nat} {own : String} {l0 : Launch} {d : Nat} {ws : va_W} {pc : Nat} {lv : List (Nat × Value)} {st : List Value} (hX : Okk X Z cc n own l0 d) {x z : Int32} (hd : decode cc pc = .ok (.ineg, 1)) (hz : -x = z) (kk : G X Z ws (pc + 1) lv (.int z :: st)) : G X Z ws pc lv (.int x :: st) := by
  obtain ⟨p, l, e, R, s, m, args, below, meth, c, kc, ks, Q, nL, A⟩ := X
  obtain ⟨hx, hb, hml, hown, hts, hK, hA, hlk, hE, hAB, hzB, hR, rfl, rfl⟩ := hX
  intro ls H locs h hP hD hS
  subst hz
  exact lv_ineg hx hb hd (kk ls H locs h hP hD hS)
theorem g_ishl {X : XX} {Z : ZZ} {cc : ByteArray} {n : Nat} {own : String} {l0 : Launch} {d : Nat} {ws : va_W} {pc : Nat} {lv : List (Nat × Value)} {st : List Value} (hX : Okk X Z cc n own l0 d) {x y z : Int32} (hd : decode cc pc = .ok (.ishl, 1)) (hz : x <<< (y &&& 31) = z) (kk : G X Z ws (pc + 1) lv (.int z :: st)) : G X Z ws pc lv (.int y :: .int x :: st) := by
  obtain ⟨p, l, e, R, s, m, args, below, meth, c, kc, ks, Q, nL, A⟩ := X
  obtain ⟨hx, hb, hml, hown, hts, hK, hA, hlk, hE, hAB, hzB, hR, rfl, rfl⟩ := hX
  intro ls H locs h hP hD hS
  subst hz
  exact lv_ishl hx hb hd (kk ls H locs h hP hD hS)
theorem g_ishr {X : XX} {Z : ZZ} {cc : ByteArray} {n : Nat} {own : String} {l0 : Launch} {d : Nat} {ws : va_W} {pc : Nat} {lv : List (Nat × Value)} {st : List Value} (hX : Okk X Z cc n own l0 d) {x y z : Int32} (hd : decode cc pc = .ok (.ishr, 1)) (hz : x >>> (y &&& 31) = z) (kk : G X Z ws (pc + 1) lv (.int z :: st)) : G X Z ws pc lv (.int y :: .int x :: st) := by
  obtain ⟨p, l, e, R, s, m, args, below, meth, c, kc, ks, Q, nL, A⟩ := X
  obtain ⟨hx, hb, hml, hown, hts, hK, hA, hlk, hE, hAB, hzB, hR, rfl, rfl⟩ := hX
  intro ls H locs h hP hD hS
  subst hz
  exact lv_ishr hx hb hd (kk ls H locs h hP hD hS)
theorem g_iushr {X : XX} {Z : ZZ} {cc : ByteArray} {n : Nat} {own : String} {l0 : Launch} {d : Nat} {ws : va_W} {pc : Nat} {lv : List (Nat × Value)} {st : List Value} (hX : Okk X Z cc n own l0 d) {x y z : Int32} (hd : decode cc pc = .ok (.iushr, 1)) (hz : (x.toUInt32 >>> (y.toUInt32 &&& Int32.toUInt32 31)).toInt32 = z) (kk : G X Z ws (pc + 1) lv (.int z :: st)) : G X Z ws pc lv (.int y :: .int x :: st) := by
  obtain ⟨p, l, e, R, s, m, args, below, meth, c, kc, ks, Q, nL, A⟩ := X
  obtain ⟨hx, hb, hml, hown, hts, hK, hA, hlk, hE, hAB, hzB, hR, rfl, rfl⟩ := hX
  intro ls H locs h hP hD hS
  exact lv_iushr hx hb hd hz (kk ls H locs h hP hD hS)
theorem g_i2c {X : XX} {Z : ZZ} {cc : ByteArray} {n : Nat} {own : String} {l0 : Launch} {d : Nat} {ws : va_W} {pc : Nat} {lv : List (Nat × Value)} {st : List Value} (hX : Okk X Z cc n own l0 d) {x z : Int32} (hd : decode cc pc = .ok (.i2c, 1)) (hz : (x.toUInt32 % 65536).toInt32 = z) (kk : G X Z ws (pc + 1) lv (.int z :: st)) : G X Z ws pc lv (.int x :: st) := by
  obtain ⟨p, l, e, R, s, m, args, below, meth, c, kc, ks, Q, nL, A⟩ := X
  obtain ⟨hx, hb, hml, hown, hts, hK, hA, hlk, hE, hAB, hzB, hR, rfl, rfl⟩ := hX
  intro ls H locs h hP hD hS
  exact lv_i2c hx hb hd hz (kk ls H locs h hP hD hS)
theorem g_i2b {X : XX} {Z : ZZ} {cc : ByteArray} {n : Nat} {own : String} {l0 : Launch} {d : Nat} {ws : va_W} {pc : Nat} {lv : List (Nat × Value)} {st : List Value} (hX : Okk X Z cc n own l0 d) {x z : Int32} (hd : decode cc pc = .ok (.i2b, 1)) (hz : x.toInt8.toInt32 = z) (kk : G X Z ws (pc + 1) lv (.int z :: st)) : G X Z ws pc lv (.int x :: st) := by
  obtain ⟨p, l, e, R, s, m, args, below, meth, c, kc, ks, Q, nL, A⟩ := X
  obtain ⟨hx, hb, hml, hown, hts, hK, hA, hlk, hE, hAB, hzB, hR, rfl, rfl⟩ := hX
  intro ls H locs h hP hD hS
  exact lv_i2b hx hb hd hz (kk ls H locs h hP hD hS)
theorem g_dup {X : XX} {Z : ZZ} {cc : ByteArray} {n : Nat} {own : String} {l0 : Launch} {d : Nat} {ws : va_W} {pc : Nat} {lv : List (Nat × Value)} {st : List Value} (hX : Okk X Z cc n own l0 d) {v : Value} (hd : decode cc pc = .ok (.dup, 1)) (hv : v.category = 1) (kk : G X Z ws (pc + 1) lv (v :: v :: st)) : G X Z ws pc lv (v :: st) := by
  obtain ⟨p, l, e, R, s, m, args, below, meth, c, kc, ks, Q, nL, A⟩ := X
  obtain ⟨hx, hb, hml, hown, hts, hK, hA, hlk, hE, hAB, hzB, hR, rfl, rfl⟩ := hX
  intro ls H locs h hP hD hS
  exact lv_dup hx hb hd hv (kk ls H locs h hP hD hS)
theorem g_pop {X : XX} {Z : ZZ} {cc : ByteArray} {n : Nat} {own : String} {l0 : Launch} {d : Nat} {ws : va_W} {pc : Nat} {lv : List (Nat × Value)} {st : List Value} (hX : Okk X Z cc n own l0 d) {v : Value} (hd : decode cc pc = .ok (.pop, 1)) (hv : v.category = 1) (kk : G X Z ws (pc + 1) lv st) : G X Z ws pc lv (v :: st) := by
  obtain ⟨p, l, e, R, s, m, args, below, meth, c, kc, ks, Q, nL, A⟩ := X
  obtain ⟨hx, hb, hml, hown, hts, hK, hA, hlk, hE, hAB, hzB, hR, rfl, rfl⟩ := hX
  intro ls H locs h hP hD hS
  exact lv_pop hx hb hd hv (kk ls H locs h hP hD hS)
theorem g_dup_x1 {X : XX} {Z : ZZ} {cc : ByteArray} {n : Nat} {own : String} {l0 : Launch} {d : Nat} {ws : va_W} {pc : Nat} {lv : List (Nat × Value)} {st : List Value} (hX : Okk X Z cc n own l0 d) {v w : Value} (hd : decode cc pc = .ok (.dup_x1, 1)) (hv : v.category = 1) (hw : w.category = 1) (kk : G X Z ws (pc + 1) lv (v :: w :: v :: st)) : G X Z ws pc lv (v :: w :: st) := by
  obtain ⟨p, l, e, R, s, m, args, below, meth, c, kc, ks, Q, nL, A⟩ := X
  obtain ⟨hx, hb, hml, hown, hts, hK, hA, hlk, hE, hAB, hzB, hR, rfl, rfl⟩ := hX
  intro ls H locs h hP hD hS
  exact lv_dup_x1 hx hb hd hv hw (kk ls H locs h hP hD hS)
theorem g_dup2 {X : XX} {Z : ZZ} {cc : ByteArray} {n : Nat} {own : String} {l0 : Launch} {d : Nat} {ws : va_W} {pc : Nat} {lv : List (Nat × Value)} {st : List Value} (hX : Okk X Z cc n own l0 d) {v w : Value} (hd : decode cc pc = .ok (.dup2, 1)) (hv : v.category = 1) (hw : w.category = 1) (kk : G X Z ws (pc + 1) lv (v :: w :: v :: w :: st)) : G X Z ws pc lv (v :: w :: st) := by
  obtain ⟨p, l, e, R, s, m, args, below, meth, c, kc, ks, Q, nL, A⟩ := X
  obtain ⟨hx, hb, hml, hown, hts, hK, hA, hlk, hE, hAB, hzB, hR, rfl, rfl⟩ := hX
  intro ls H locs h hP hD hS
  exact lv_dup2_11 hx hb hd hv hw (kk ls H locs h hP hD hS)
theorem g_if_eq {X : XX} {Z : ZZ} {cc : ByteArray} {n : Nat} {own : String} {l0 : Launch} {d : Nat} {ws : va_W} {pc : Nat} {lv : List (Nat × Value)} {st : List Value} (hX : Okk X Z cc n own l0 d) {x : Int32} {off : Int} (tgt : Nat) (hd : decode cc pc = .ok (.ifCond .eq off, 3)) (ht : (pc : Int) + off = (tgt : Int)) (kt : x = 0 → G X Z ws tgt lv st) (kf : ¬ x = 0 → G X Z ws (pc + 3) lv st) : G X Z ws pc lv (.int x :: st) := by
  obtain ⟨p, l, e, R, s, m, args, below, meth, c, kc, ks, Q, nL, A⟩ := X
  obtain ⟨hx, hb, hml, hown, hts, hK, hA, hlk, hE, hAB, hzB, hR, rfl, rfl⟩ := hX
  intro ls H locs h hP hD hS
  exact lv_if_eq hx hb hd ht (fun q => kt q ls H locs h hP hD hS) (fun q => kf q ls H locs h hP hD hS)
theorem g_icmp_eq {X : XX} {Z : ZZ} {cc : ByteArray} {n : Nat} {own : String} {l0 : Launch} {d : Nat} {ws : va_W} {pc : Nat} {lv : List (Nat × Value)} {st : List Value} (hX : Okk X Z cc n own l0 d) {x y : Int32} {off : Int} (tgt : Nat) (hd : decode cc pc = .ok (.if_icmp .eq off, 3)) (ht : (pc : Int) + off = (tgt : Int)) (kt : x = y → G X Z ws tgt lv st) (kf : ¬ x = y → G X Z ws (pc + 3) lv st) : G X Z ws pc lv (.int y :: .int x :: st) := by
  obtain ⟨p, l, e, R, s, m, args, below, meth, c, kc, ks, Q, nL, A⟩ := X
  obtain ⟨hx, hb, hml, hown, hts, hK, hA, hlk, hE, hAB, hzB, hR, rfl, rfl⟩ := hX
  intro ls H locs h hP hD hS
  exact lv_icmp_eq hx hb hd ht (fun q => kt q ls H locs h hP hD hS) (fun q => kf q ls H locs h hP hD hS)
theorem g_if_ne {X : XX} {Z : ZZ} {cc : ByteArray} {n : Nat} {own : String} {l0 : Launch} {d : Nat} {ws : va_W} {pc : Nat} {lv : List (Nat × Value)} {st : List Value} (hX : Okk X Z cc n own l0 d) {x : Int32} {off : Int} (tgt : Nat) (hd : decode cc pc = .ok (.ifCond .ne off, 3)) (ht : (pc : Int) + off = (tgt : Int)) (kt : ¬ x = 0 → G X Z ws tgt lv st) (kf : x = 0 → G X Z ws (pc + 3) lv st) : G X Z ws pc lv (.int x :: st) := by
  obtain ⟨p, l, e, R, s, m, args, below, meth, c, kc, ks, Q, nL, A⟩ := X
  obtain ⟨hx, hb, hml, hown, hts, hK, hA, hlk, hE, hAB, hzB, hR, rfl, rfl⟩ := hX
  intro ls H locs h hP hD hS
  exact lv_if_ne hx hb hd ht (fun q => kt q ls H locs h hP hD hS) (fun q => kf q ls H locs h hP hD hS)
theorem g_icmp_ne {X : XX} {Z : ZZ} {cc : ByteArray} {n : Nat} {own : String} {l0 : Launch} {d : Nat} {ws : va_W} {pc : Nat} {lv : List (Nat × Value)} {st : List Value} (hX : Okk X Z cc n own l0 d) {x y : Int32} {off : Int} (tgt : Nat) (hd : decode cc pc = .ok (.if_icmp .ne off, 3)) (ht : (pc : Int) + off = (tgt : Int)) (kt : ¬ x = y → G X Z ws tgt lv st) (kf : x = y → G X Z ws (pc + 3) lv st) : G X Z ws pc lv (.int y :: .int x :: st) := by
  obtain ⟨p, l, e, R, s, m, args, below, meth, c, kc, ks, Q, nL, A⟩ := X
  obtain ⟨hx, hb, hml, hown, hts, hK, hA, hlk, hE, hAB, hzB, hR, rfl, rfl⟩ := hX
  intro ls H locs h hP hD hS
  exact lv_icmp_ne hx hb hd ht (fun q => kt q ls H locs h hP hD hS) (fun q => kf q ls H locs h hP hD hS)
theorem g_if_lt {X : XX} {Z : ZZ} {cc : ByteArray} {n : Nat} {own : String} {l0 : Launch} {d : Nat} {ws : va_W} {pc : Nat} {lv : List (Nat × Value)} {st : List Value} (hX : Okk X Z cc n own l0 d) {x : Int32} {off : Int} (tgt : Nat) (hd : decode cc pc = .ok (.ifCond .lt off, 3)) (ht : (pc : Int) + off = (tgt : Int)) (kt : x < 0 → G X Z ws tgt lv st) (kf : ¬ x < 0 → G X Z ws (pc + 3) lv st) : G X Z ws pc lv (.int x :: st) := by
  obtain ⟨p, l, e, R, s, m, args, below, meth, c, kc, ks, Q, nL, A⟩ := X
  obtain ⟨hx, hb, hml, hown, hts, hK, hA, hlk, hE, hAB, hzB, hR, rfl, rfl⟩ := hX
  intro ls H locs h hP hD hS
  exact lv_if_lt hx hb hd ht (fun q => kt q ls H locs h hP hD hS) (fun q => kf q ls H locs h hP hD hS)
theorem g_icmp_lt {X : XX} {Z : ZZ} {cc : ByteArray} {n : Nat} {own : String} {l0 : Launch} {d : Nat} {ws : va_W} {pc : Nat} {lv : List (Nat × Value)} {st : List Value} (hX : Okk X Z cc n own l0 d) {x y : Int32} {off : Int} (tgt : Nat) (hd : decode cc pc = .ok (.if_icmp .lt off, 3)) (ht : (pc : Int) + off = (tgt : Int)) (kt : x < y → G X Z ws tgt lv st) (kf : ¬ x < y → G X Z ws (pc + 3) lv st) : G X Z ws pc lv (.int y :: .int x :: st) := by
  obtain ⟨p, l, e, R, s, m, args, below, meth, c, kc, ks, Q, nL, A⟩ := X
  obtain ⟨hx, hb, hml, hown, hts, hK, hA, hlk, hE, hAB, hzB, hR, rfl, rfl⟩ := hX
  intro ls H locs h hP hD hS
  exact lv_icmp_lt hx hb hd ht (fun q => kt q ls H locs h hP hD hS) (fun q => kf q ls H locs h hP hD hS)
theorem g_if_ge {X : XX} {Z : ZZ} {cc : ByteArray} {n : Nat} {own : String} {l0 : Launch} {d : Nat} {ws : va_W} {pc : Nat} {lv : List (Nat × Value)} {st : List Value} (hX : Okk X Z cc n own l0 d) {x : Int32} {off : Int} (tgt : Nat) (hd : decode cc pc = .ok (.ifCond .ge off, 3)) (ht : (pc : Int) + off = (tgt : Int)) (kt : 0 ≤ x → G X Z ws tgt lv st) (kf : ¬ 0 ≤ x → G X Z ws (pc + 3) lv st) : G X Z ws pc lv (.int x :: st) := by
  obtain ⟨p, l, e, R, s, m, args, below, meth, c, kc, ks, Q, nL, A⟩ := X
  obtain ⟨hx, hb, hml, hown, hts, hK, hA, hlk, hE, hAB, hzB, hR, rfl, rfl⟩ := hX
  intro ls H locs h hP hD hS
  exact lv_if_ge hx hb hd ht (fun q => kt q ls H locs h hP hD hS) (fun q => kf q ls H locs h hP hD hS)
theorem g_icmp_ge {X : XX} {Z : ZZ} {cc : ByteArray} {n : Nat} {own : String} {l0 : Launch} {d : Nat} {ws : va_W} {pc : Nat} {lv : List (Nat × Value)} {st : List Value} (hX : Okk X Z cc n own l0 d) {x y : Int32} {off : Int} (tgt : Nat) (hd : decode cc pc = .ok (.if_icmp .ge off, 3)) (ht : (pc : Int) + off = (tgt : Int)) (kt : y ≤ x → G X Z ws tgt lv st) (kf : ¬ y ≤ x → G X Z ws (pc + 3) lv st) : G X Z ws pc lv (.int y :: .int x :: st) := by
  obtain ⟨p, l, e, R, s, m, args, below, meth, c, kc, ks, Q, nL, A⟩ := X
  obtain ⟨hx, hb, hml, hown, hts, hK, hA, hlk, hE, hAB, hzB, hR, rfl, rfl⟩ := hX
  intro ls H locs h hP hD hS
  exact lv_icmp_ge hx hb hd ht (fun q => kt q ls H locs h hP hD hS) (fun q => kf q ls H locs h hP hD hS)
theorem g_if_gt {X : XX} {Z : ZZ} {cc : ByteArray} {n : Nat} {own : String} {l0 : Launch} {d : Nat} {ws : va_W} {pc : Nat} {lv : List (Nat × Value)} {st : List Value} (hX : Okk X Z cc n own l0 d) {x : Int32} {off : Int} (tgt : Nat) (hd : decode cc pc = .ok (.ifCond .gt off, 3)) (ht : (pc : Int) + off = (tgt : Int)) (kt : 0 < x → G X Z ws tgt lv st) (kf : ¬ 0 < x → G X Z ws (pc + 3) lv st) : G X Z ws pc lv (.int x :: st) := by
  obtain ⟨p, l, e, R, s, m, args, below, meth, c, kc, ks, Q, nL, A⟩ := X
  obtain ⟨hx, hb, hml, hown, hts, hK, hA, hlk, hE, hAB, hzB, hR, rfl, rfl⟩ := hX
  intro ls H locs h hP hD hS
  exact lv_if_gt hx hb hd ht (fun q => kt q ls H locs h hP hD hS) (fun q => kf q ls H locs h hP hD hS)
theorem g_icmp_gt {X : XX} {Z : ZZ} {cc : ByteArray} {n : Nat} {own : String} {l0 : Launch} {d : Nat} {ws : va_W} {pc : Nat} {lv : List (Nat × Value)} {st : List Value} (hX : Okk X Z cc n own l0 d) {x y : Int32} {off : Int} (tgt : Nat) (hd : decode cc pc = .ok (.if_icmp .gt off, 3)) (ht : (pc : Int) + off = (tgt : Int)) (kt : y < x → G X Z ws tgt lv st) (kf : ¬ y < x → G X Z ws (pc + 3) lv st) : G X Z ws pc lv (.int y :: .int x :: st) := by
  obtain ⟨p, l, e, R, s, m, args, below, meth, c, kc, ks, Q, nL, A⟩ := X
  obtain ⟨hx, hb, hml, hown, hts, hK, hA, hlk, hE, hAB, hzB, hR, rfl, rfl⟩ := hX
  intro ls H locs h hP hD hS
  exact lv_icmp_gt hx hb hd ht (fun q => kt q ls H locs h hP hD hS) (fun q => kf q ls H locs h hP hD hS)
theorem g_if_le {X : XX} {Z : ZZ} {cc : ByteArray} {n : Nat} {own : String} {l0 : Launch} {d : Nat} {ws : va_W} {pc : Nat} {lv : List (Nat × Value)} {st : List Value} (hX : Okk X Z cc n own l0 d) {x : Int32} {off : Int} (tgt : Nat) (hd : decode cc pc = .ok (.ifCond .le off, 3)) (ht : (pc : Int) + off = (tgt : Int)) (kt : x ≤ 0 → G X Z ws tgt lv st) (kf : ¬ x ≤ 0 → G X Z ws (pc + 3) lv st) : G X Z ws pc lv (.int x :: st) := by
  obtain ⟨p, l, e, R, s, m, args, below, meth, c, kc, ks, Q, nL, A⟩ := X
  obtain ⟨hx, hb, hml, hown, hts, hK, hA, hlk, hE, hAB, hzB, hR, rfl, rfl⟩ := hX
  intro ls H locs h hP hD hS
  exact lv_if_le hx hb hd ht (fun q => kt q ls H locs h hP hD hS) (fun q => kf q ls H locs h hP hD hS)
theorem g_icmp_le {X : XX} {Z : ZZ} {cc : ByteArray} {n : Nat} {own : String} {l0 : Launch} {d : Nat} {ws : va_W} {pc : Nat} {lv : List (Nat × Value)} {st : List Value} (hX : Okk X Z cc n own l0 d) {x y : Int32} {off : Int} (tgt : Nat) (hd : decode cc pc = .ok (.if_icmp .le off, 3)) (ht : (pc : Int) + off = (tgt : Int)) (kt : x ≤ y → G X Z ws tgt lv st) (kf : ¬ x ≤ y → G X Z ws (pc + 3) lv st) : G X Z ws pc lv (.int y :: .int x :: st) := by
  obtain ⟨p, l, e, R, s, m, args, below, meth, c, kc, ks, Q, nL, A⟩ := X
  obtain ⟨hx, hb, hml, hown, hts, hK, hA, hlk, hE, hAB, hzB, hR, rfl, rfl⟩ := hX
  intro ls H locs h hP hD hS
  exact lv_icmp_le hx hb hd ht (fun q => kt q ls H locs h hP hD hS) (fun q => kf q ls H locs h hP hD hS)
theorem g_goto {X : XX} {Z : ZZ} {cc : ByteArray} {n : Nat} {own : String} {l0 : Launch} {d : Nat} {ws : va_W} {pc : Nat} {lv : List (Nat × Value)} {st : List Value} (hX : Okk X Z cc n own l0 d) {off : Int} (tgt : Nat) (hd : decode cc pc = .ok (.goto off, 3)) (ht : (pc : Int) + off = (tgt : Int)) (kk : G X Z ws tgt lv st) : G X Z ws pc lv st := by
  obtain ⟨p, l, e, R, s, m, args, below, meth, c, kc, ks, Q, nL, A⟩ := X
  obtain ⟨hx, hb, hml, hown, hts, hK, hA, hlk, hE, hAB, hzB, hR, rfl, rfl⟩ := hX
  intro ls H locs h hP hD hS
  exact lv_goto hx hb hd ht (kk ls H locs h hP hD hS)
theorem g_tabOut {X : XX} {Z : ZZ} {cc : ByteArray} {n : Nat} {own : String} {l0 : Launch} {d : Nat} {ws : va_W} {pc : Nat} {lv : List (Nat × Value)} {st : List Value} (hX : Okk X Z cc n own l0 d) {dflt lo hi : Int} {offs : Array Int} {len : Nat} {x : Int32} (tgt : Nat) (hd : decode cc pc = .ok (.tableswitch dflt lo hi offs, len)) (hq : x.toInt < lo ∨ hi < x.toInt) (ht : (pc : Int) + dflt = (tgt : Int)) (kk : G X Z ws tgt lv st) : G X Z ws pc lv (.int x :: st) := by
  obtain ⟨p, l, e, R, s, m, args, below, meth, c, kc, ks, Q, nL, A⟩ := X
  obtain ⟨hx, hb, hml, hown, hts, hK, hA, hlk, hE, hAB, hzB, hR, rfl, rfl⟩ := hX
  intro ls H locs h hP hD hS
  exact lv_tableOut hx hb hd hq ht (kk ls H locs h hP hD hS)
theorem g_tabIn {X : XX} {Z : ZZ} {cc : ByteArray} {n : Nat} {own : String} {l0 : Launch} {d : Nat} {ws : va_W} {pc : Nat} {lv : List (Nat × Value)} {st : List Value} (hX : Okk X Z cc n own l0 d) {dflt lo hi : Int} {offs : Array Int} {len : Nat} {x : Int32} {off : Int} (tgt : Nat) (hd : decode cc pc = .ok (.tableswitch dflt lo hi offs, len)) (h1 : ¬ x.toInt < lo) (h2 : ¬ hi < x.toInt) (ho : offs[(x.toInt - lo).toNat]? = some off) (ht : (pc : Int) + off = (tgt : Int)) (kk : G X Z ws tgt lv st) : G X Z ws pc lv (.int x :: st) := by
  obtain ⟨p, l, e, R, s, m, args, below, meth, c, kc, ks, Q, nL, A⟩ := X
  obtain ⟨hx, hb, hml, hown, hts, hK, hA, hlk, hE, hAB, hzB, hR, rfl, rfl⟩ := hX
  intro ls H locs h hP hD hS
  exact lv_tableIn hx hb hd h1 h2 ho ht (kk ls H locs h hP hD hS)
theorem g_look {X : XX} {Z : ZZ} {cc : ByteArray} {n : Nat} {own : String} {l0 : Launch} {d : Nat} {ws : va_W} {pc : Nat} {lv : List (Nat × Value)} {st : List Value} (hX : Okk X Z cc n own l0 d) {dflt : Int} {ps : Array (Int × Int)} {len : Nat} {x : Int32} {off : Int} (tgt : Nat) (hd : decode cc pc = .ok (.lookupswitch dflt ps, len)) (hp : (ps.toList.zip (ps.toList.drop 1)).all (fun (a, next) => a.1 < next.1) = true) (ho : Op.lookupswitch.offset ps.toList dflt x.toInt = off) (ht : (pc : Int) + off = (tgt : Int)) (kk : G X Z ws tgt lv st) : G X Z ws pc lv (.int x :: st) := by
  obtain ⟨p, l, e, R, s, m, args, below, meth, c, kc, ks, Q, nL, A⟩ := X
  obtain ⟨hx, hb, hml, hown, hts, hK, hA, hlk, hE, hAB, hzB, hR, rfl, rfl⟩ := hX
  intro ls H locs h hP hD hS
  exact lv_lookup hx hb hd hp ho ht (kk ls H locs h hP hD hS)
theorem g_get {X : XX} {Z : ZZ} {cc : ByteArray} {n : Nat} {own : String} {l0 : Launch} {d : Nat} {ws : va_W} {pc : Nat} {lv : List (Nat × Value)} {st : List Value} (hX : Okk X Z cc n own l0 d) {a : Nat} {C ref : String} {T : u_T} {N ci idx : Nat} {fs : List Value} {v : Value} (q0 : Nat) (he : ws[q0]? = some (a, .inr (ci, fs))) (hc : classes[ci]? = some (C, T, N)) (k : Nat) (hk : k < N) (hu : ∀ w ∈ u_ws C T N, w ∈ UW) (hlink : Cond.fieldLink own idx ref (T k).2.1 (T k).2.2.1 ∈ UW) (hsame : (T k).1 = ref) (hv : fs[k]? = some v) (hd : decode cc pc = .ok (.getfield idx, 3)) (kk : G X Z ws (pc + 3) lv (v :: st)) : G X Z ws pc lv (.ref a :: st) := by
  obtain ⟨p, l, e, R, s, m, args, below, meth, c, kc, ks, Q, nL, A⟩ := X
  obtain ⟨hx, hb, hml, hown, hts, hK, hA, hlk, hE, hAB, hzB, hR, rfl, rfl⟩ := hX
  intro ls H locs h hP hD hS
  subst hsame
  exact va_get (D := zD Z) (cl := classes) hx hb hts hu hown hK hP q0 he hc k hk (hts _ hlink) (fun _ q => q) hv hd (kk ls H locs h hP hD hS)
theorem g_put {X : XX} {Z : ZZ} {cc : ByteArray} {n : Nat} {own : String} {l0 : Launch} {d : Nat} {ws : va_W} {pc : Nat} {lv : List (Nat × Value)} {st : List Value} (hX : Okk X Z cc n own l0 d) {a : Nat} {C ref : String} {T : u_T} {N ci idx : Nat} {fs : List Value} {v : Value} {ty : FieldType} {ws1 : va_W} (q0 : Nat) (he : ws[q0]? = some (a, .inr (ci, fs))) (hc : classes[ci]? = some (C, T, N)) (k : Nat) (hk : k < N) (hu : ∀ w ∈ u_ws C T N, w ∈ UW) (ty0 : Nat → FieldType) (hty : ∀ k, k < N → parseFieldDescriptor (T k).2.2.1 = some (ty0 k)) (hnm : ∀ a, a < N → ∀ b, b < N → a ≠ b → (T a).2.1 ≠ (T b).2.1) (hlink : Cond.fieldLink own idx ref (T k).2.1 (T k).2.2.1 ∈ UW) (hsame : (T k).1 = ref) (hfin : (T k).2.2.2 = false) (hty1 : parseFieldDescriptor (T k).2.2.1 = some ty) (hn : narrow ty v = v) (hfit : fits ty v = true) (hl : k < fs.length) (hd : decode cc pc = .ok (.putfield idx, 3)) (hw : ws.set q0 (a, .inr (ci, fs.set k v)) = ws1) (kk : G X Z ws1 (pc + 3) lv st) : G X Z ws pc lv (v :: .ref a :: st) := by
  obtain ⟨p, l, e, R, s, m, args, below, meth, c, kc, ks, Q, nL, A⟩ := X
  obtain ⟨hx, hb, hml, hown, hts, hK, hA, hlk, hE, hAB, hzB, hR, rfl, rfl⟩ := hX
  intro ls H locs h hP hD hS
  subst hsame hw
  exact va_put (D := zD Z) (cl := classes) hx hb hts hu ty0 hty hnm hown hK hP hD hS q0 he hc k hk (hts _ hlink) (fun _ q => q) hfin hty1 hn hfit hl hd (fun H1 locs1 hP1 hD1 hS1 => kk ls H1 locs1 h hP1 hD1 hS1)
theorem g_ald {X : XX} {Z : ZZ} {cc : ByteArray} {n : Nat} {own : String} {l0 : Launch} {d : Nat} {ws : va_W} {pc : Nat} {lv : List (Nat × Value)} {st : List Value} (hX : Okk X Z cc n own l0 d) {a N : Nat} {f : Nat → Int32} {i : Int32} {v : Int32} (q0 : Nat) (ha : ws[q0]? = some (a, .inl (zI Z, N, .inl f))) (j : Nat) (hj : j < N) (hN : N < 2 ^ 31) (hi : i = nI j) (hv : f j = v) (hd : decode cc pc = .ok (.iaload, 1)) (kk : G X Z ws (pc + 1) lv (.int v :: st)) : G X Z ws pc lv (.int i :: .ref a :: st) := by
  obtain ⟨p, l, e, R, s, m, args, below, meth, c, kc, ks, Q, nL, A⟩ := X
  obtain ⟨hx, hb, hml, hown, hts, hK, hA, hlk, hE, hAB, hzB, hR, rfl, rfl⟩ := hX
  intro ls H locs h hP hD hS
  subst hi hv
  have kk1 := kk ls H locs h hP hD hS
  have e1 := nI_clamp (n := j) (by omega)
  exact va_iald (D := zD Z) (cl := classes) hx hb hK hP q0 0 ha rfl (vp_in_nI hj hN) hd (by rw [e1]; exact kk1)
theorem g_aldR {X : XX} {Z : ZZ} {cc : ByteArray} {n : Nat} {own : String} {l0 : Launch} {d : Nat} {ws : va_W} {pc : Nat} {lv : List (Nat × Value)} {st : List Value} (hX : Okk X Z cc n own l0 d) {a N : Nat} {f : Nat → Int32} {i : Int32} (q0 : Nat) (ha : ws[q0]? = some (a, .inl (zI Z, N, .inl f))) (hi : vp_in i N) (hd : decode cc pc = .ok (.iaload, 1)) (kk : G X Z ws (pc + 1) lv (.int (f i.toNatClampNeg) :: st)) : G X Z ws pc lv (.int i :: .ref a :: st) := by
  obtain ⟨p, l, e, R, s, m, args, below, meth, c, kc, ks, Q, nL, A⟩ := X
  obtain ⟨hx, hb, hml, hown, hts, hK, hA, hlk, hE, hAB, hzB, hR, rfl, rfl⟩ := hX
  intro ls H locs h hP hD hS
  exact va_iald (D := zD Z) (cl := classes) hx hb hK hP q0 0 ha rfl hi hd (kk ls H locs h hP hD hS)
theorem g_ast {X : XX} {Z : ZZ} {cc : ByteArray} {n : Nat} {own : String} {l0 : Launch} {d : Nat} {ws : va_W} {pc : Nat} {lv : List (Nat × Value)} {st : List Value} (hX : Okk X Z cc n own l0 d) {a N : Nat} {f : Nat → Int32} {i x : Int32} {ws1 : va_W} (q0 : Nat) (ha : ws[q0]? = some (a, .inl (zI Z, N, .inl f))) (j : Nat) (hj : j < N) (hN : N < 2 ^ 31) (hi : i = nI j) (hd : decode cc pc = .ok (.iastore, 1)) (hw : ws.set q0 (a, .inl (zI Z, N, .inl (upd f j x))) = ws1) (kk : G X Z ws1 (pc + 1) lv st) : G X Z ws pc lv (.int x :: .int i :: .ref a :: st) := by
  obtain ⟨p, l, e, R, s, m, args, below, meth, c, kc, ks, Q, nL, A⟩ := X
  obtain ⟨hx, hb, hml, hown, hts, hK, hA, hlk, hE, hAB, hzB, hR, rfl, rfl⟩ := hX
  intro ls H locs h hP hD hS
  subst hi hw
  have e1 := nI_clamp (n := j) (by omega)
  refine va_iast (D := zD Z) (cl := classes) hx hb hK hP hD hS q0 0 ha rfl (vp_in_nI hj hN) hd (fun H1 locs1 hP1 hD1 hS1 => ?_)
  rw [e1] at hP1 hD1
  exact kk ls H1 locs1 h hP1 hD1 hS1
theorem g_alen {X : XX} {Z : ZZ} {cc : ByteArray} {n : Nat} {own : String} {l0 : Launch} {d : Nat} {ws : va_W} {pc : Nat} {lv : List (Nat × Value)} {st : List Value} (hX : Okk X Z cc n own l0 d) {a : Nat} {cA : ClassId} {x : vp_A} {ty : FieldType} {v : Int32} (q0 t0 : Nat) (ha : ws[q0]? = some (a, .inl (cA, x))) (ht : (tys Z)[t0]? = some (cA, ty)) (hv : Int32.ofNat x.1 = v) (hd : decode cc pc = .ok (.arraylength, 1)) (kk : G X Z ws (pc + 1) lv (.int v :: st)) : G X Z ws pc lv (.ref a :: st) := by
  obtain ⟨p, l, e, R, s, m, args, below, meth, c, kc, ks, Q, nL, A⟩ := X
  obtain ⟨hx, hb, hml, hown, hts, hK, hA, hlk, hE, hAB, hzB, hR, rfl, rfl⟩ := hX
  intro ls H locs h hP hD hS
  exact va_alen (D := zD Z) (cl := classes) hx hb hK hP q0 t0 ha ht hv hd (kk ls H locs h hP hD hS)
theorem g_mmax {X : XX} {Z : ZZ} {cc : ByteArray} {n : Nat} {own : String} {l0 : Launch} {d : Nat} {ws : va_W} {pc : Nat} {lv : List (Nat × Value)} {st : List Value} (hX : Okk X Z cc n own l0 d) {x y z : Int32} {idx : Nat} (hlink : Cond.methodLink own idx Lib.Math.max.name ∈ UW) (hst : Cond.static Lib.Math.max.name ∈ UW) (hini : Cond.initialized "java/lang/Math" ∈ UW) (hcode : Cond.code Lib.Math.max.name Lib.Math.max.code 2 (some .int) ∈ UW) (hd : decode cc pc = .ok (.invokestatic idx, 3)) (hdep : 1 ≤ d) (hcat : (st.map fun v => v.category).sum + 13 ≤ 37) (hz : (if x < y then y else x) = z) (kk : G X Z ws (pc + 3) lv (.int z :: st)) : G X Z ws pc lv (.int y :: .int x :: st) := by
  obtain ⟨p, l, e, R, s, m, args, below, meth, c, kc, ks, Q, nL, A⟩ := X
  obtain ⟨hx, hb, hml, hown, hts, hK, hA, hlk, hE, hAB, hzB, hR, rfl, rfl⟩ := hX
  intro ls H locs h hP hD hS
  subst hz
  exact va_mmax hx hb (hml.trans h.1.symm) hown (hts _ hlink) (hts _ hst) (hts _ hini) (hts _ hcode) (by omega) (by omega) hR.1 hR.2.1 hd (kk ls H locs h hP hD hS)
theorem g_mmin {X : XX} {Z : ZZ} {cc : ByteArray} {n : Nat} {own : String} {l0 : Launch} {d : Nat} {ws : va_W} {pc : Nat} {lv : List (Nat × Value)} {st : List Value} (hX : Okk X Z cc n own l0 d) {x y z : Int32} {idx : Nat} (hlink : Cond.methodLink own idx Lib.Math.min.name ∈ UW) (hst : Cond.static Lib.Math.min.name ∈ UW) (hini : Cond.initialized "java/lang/Math" ∈ UW) (hcode : Cond.code Lib.Math.min.name Lib.Math.min.code 2 (some .int) ∈ UW) (hd : decode cc pc = .ok (.invokestatic idx, 3)) (hdep : 1 ≤ d) (hcat : (st.map fun v => v.category).sum + 13 ≤ 37) (hz : (if y < x then y else x) = z) (kk : G X Z ws (pc + 3) lv (.int z :: st)) : G X Z ws pc lv (.int y :: .int x :: st) := by
  obtain ⟨p, l, e, R, s, m, args, below, meth, c, kc, ks, Q, nL, A⟩ := X
  obtain ⟨hx, hb, hml, hown, hts, hK, hA, hlk, hE, hAB, hzB, hR, rfl, rfl⟩ := hX
  intro ls H locs h hP hD hS
  subst hz
  exact va_mmin hx hb (hml.trans h.1.symm) hown (hts _ hlink) (hts _ hst) (hts _ hini) (hts _ hcode) (by omega) (by omega) hR.1 hR.2.1 hd (kk ls H locs h hP hD hS)
theorem g_copy {X : XX} {Z : ZZ} {cc : ByteArray} {n : Nat} {own : String} {l0 : Launch} {d : Nat} {ws : va_W} {pc : Nat} {lv : List (Nat × Value)} {st : List Value} (hX : Okk X Z cc n own l0 d) {a a0 n0 n1 : Nat} {f g : Nat → Int32} {sp dp k : Int32} {idx : Nat} {ws1 : va_W} (q0 q1 : Nat) (ha0 : ws[q0]? = some (a0, .inl (zI Z, n0, .inl f))) (ha1 : ws[q1]? = some (a, .inl (zI Z, n1, .inl g))) (hlink : Cond.methodLink own idx arraycopyName ∈ UW) (hnat : Cond.native arraycopyName ∈ UW) (hst : Cond.static arraycopyName ∈ UW) (hini : Cond.initialized "java/lang/System" ∈ UW) (h1 : ¬ sp < 0) (h2 : ¬ dp < 0) (h3 : ¬ k < 0) (h4 : sp.toNatClampNeg + k.toNatClampNeg ≤ n0) (h5 : dp.toNatClampNeg + k.toNatClampNeg ≤ n1) (hdep : 1 ≤ d) (hcat : (st.map fun v => v.category).sum + (nativeFrameWords "java/lang/System" "arraycopy" 5 + 11) ≤ 37) (hd : decode cc pc = .ok (.invokestatic idx, 3)) (hw : ws.set q1 (a, .inl (zI Z, n1, .inl (va_cpy f g sp.toNatClampNeg dp.toNatClampNeg k.toNatClampNeg))) = ws1) (kk : G X Z ws1 (pc + 3) lv st) : G X Z ws pc lv (.int k :: .int dp :: .ref a :: .int sp :: .ref a0 :: st) := by
  obtain ⟨p, l, e, R, s, m, args, below, meth, c, kc, ks, Q, nL, A⟩ := X
  obtain ⟨hx, hb, hml, hown, hts, hK, hA, hlk, hE, hAB, hzB, hR, rfl, rfl⟩ := hX
  intro ls H locs h hP hD hS
  subst hw
  exact va_copyi (D := zD Z) (cl := classes) hx hb (hml.trans h.1.symm) hown (hts _ hlink) (hts _ hnat) (hts _ hst) (hts _ hini) hK hP hD hS q0 q1 0 0 ha0 ha1 rfl rfl rfl h1 h2 h3 h4 h5 (fun _ _ => rfl) (by omega) (by omega) hd (fun H1 locs1 hP1 hD1 hS1 => kk ls H1 locs1 h hP1 hD1 hS1)
theorem g_top {X : XX} {Z : ZZ} {ws : va_W} {pc : Nat} {lv : List (Nat × Value)} {st : List Value} {x y : Int32} (e : x = y) (kk : G X Z ws pc lv (.int y :: st)) : G X Z ws pc lv (.int x :: st) := by rw [e]; exact kk
theorem g_eq {X : XX} {Z : ZZ} {ws ws1 : va_W} {pc : Nat} {lv lv1 : List (Nat × Value)} {st st1 : List Value} (e1 : ws = ws1) (e2 : lv = lv1) (e3 : st = st1) (kk : G X Z ws1 pc lv1 st1) : G X Z ws pc lv st := by rw [e1, e2, e3]; exact kk
/-- another picture of the same cells -/
def Same (Z : ZZ) (ws ws1 : va_W) : Prop := ws1.map (·.1) = ws.map (·.1) ∧ ∀ H : Heap, va_P (zD Z) classes ws H → va_P (zD Z) classes ws1 H
theorem g_same {X : XX} {Z : ZZ} {ws ws1 : va_W} {pc : Nat} {lv : List (Nat × Value)} {st : List Value} (hs : Same Z ws ws1) (kk : G X Z ws1 pc lv st) : G X Z ws pc lv st := by
  obtain ⟨p, l, e, R, s, m, args, below, meth, c, kc, ks, Q, nL, A⟩ := X
  intro ls H locs h hP hD hS
  exact kk ls H locs h (hs.2 H hP) (va_D_keys hs.1 hD) hS
theorem g_lv {X : XX} {Z : ZZ} {ws : va_W} {pc : Nat} {lv lv1 : List (Nat × Value)} {st : List Value} (kp : List Nat) (hl : lv_pick lv kp = lv1) (kk : G X Z ws pc lv1 st) : G X Z ws pc lv st := by
  obtain ⟨p, l, e, R, s, m, args, below, meth, c, kc, ks0, Q, nL, A⟩ := X
  intro ls H locs h hP hD hS
  exact kk ls H locs (lv_sub h kp hl) hP hD hS
theorem g_iret {X : XX} {Z : ZZ} {cc : ByteArray} {n : Nat} {own : String} {l0 : Launch} {d : Nat} {ws : va_W} {pc : Nat} {lv : List (Nat × Value)} {st : List Value} (hX : Okk X Z cc n own l0 d) {ws0 : va_W} {Post : Option Value → va_W → Prop} (hQ : Ret X Z ws0 Post (some .int)) {v : Int32} (hd : decode cc pc = .ok (.ireturn, 1)) (hk : ws.map (·.1) = ws0.map (·.1)) (hp : Post (some (.int v)) ws) : G X Z ws pc lv [.int v] := by
  obtain ⟨p, l, e, R, s, m, args, below, meth, c, kc, ks, Q, nL, A⟩ := X
  obtain ⟨hx, hb, hml, hown, hts, hK, hA, hlk, hE, hAB, hzB, hR, rfl, rfl⟩ := hX
  obtain ⟨rfl, rfl, hr, rfl, rfl⟩ := hQ
  intro ls H locs h hP hD hS
  exact W.iret hx hb hr (fun t ht hW => ⟨⟨_, ws, rfl, hp, hk, by rw [ht]; exact hP⟩, hS.F ht⟩) hS.2.2 hd hlk
theorem g_zret {X : XX} {Z : ZZ} {cc : ByteArray} {n : Nat} {own : String} {l0 : Launch} {d : Nat} {ws : va_W} {pc : Nat} {lv : List (Nat × Value)} {st : List Value} (hX : Okk X Z cc n own l0 d) {ws0 : va_W} {Post : Option Value → va_W → Prop} {ty : FieldType} (hQ : Ret X Z ws0 Post (some ty)) {v : Int32} (hn : narrow ty (.int v) = .int v) (hd : decode cc pc = .ok (.ireturn, 1)) (hk : ws.map (·.1) = ws0.map (·.1)) (hp : Post (some (.int v)) ws) : G X Z ws pc lv [.int v] := by
  obtain ⟨p, l, e, R, s, m, args, below, meth, c, kc, ks, Q, nL, A⟩ := X
  obtain ⟨hx, hb, hml, hown, hts, hK, hA, hlk, hE, hAB, hzB, hR, rfl, rfl⟩ := hX
  obtain ⟨rfl, rfl, hr, rfl, rfl⟩ := hQ
  intro ls H locs h hP hD hS
  exact W.zret hx hb hr hn (fun t ht hW => ⟨⟨_, ws, rfl, hp, hk, by rw [ht]; exact hP⟩, hS.F ht⟩) hS.2.2 hd hlk
theorem g_vret {X : XX} {Z : ZZ} {cc : ByteArray} {n : Nat} {own : String} {l0 : Launch} {d : Nat} {ws : va_W} {pc : Nat} {lv : List (Nat × Value)} {st : List Value} (hX : Okk X Z cc n own l0 d) {ws0 : va_W} {Post : Option Value → va_W → Prop} (hQ : Ret X Z ws0 Post none) (hd : decode cc pc = .ok (.return_, 1)) (hk : ws.map (·.1) = ws0.map (·.1)) (hp : Post none ws) : G X Z ws pc lv [] := by
  obtain ⟨p, l, e, R, s, m, args, below, meth, c, kc, ks, Q, nL, A⟩ := X
  obtain ⟨hx, hb, hml, hown, hts, hK, hA, hlk, hE, hAB, hzB, hR, rfl, rfl⟩ := hX
  obtain ⟨rfl, rfl, hr, rfl, rfl⟩ := hQ
  intro ls H locs h hP hD hS
  exact W.vret hx hb hr (fun t ht hW => ⟨⟨_, ws, rfl, hp, hk, by rw [ht]; exact hP⟩, hS.F ht⟩) hS.2.2 hd hlk
theorem g_callC {X : XX} {Z : ZZ} {cc : ByteArray} {n : Nat} {own : String} {l0 : Launch} {d : Nat} {ws wc : va_W} {pc : Nat} {lv : List (Nat × Value)} {st st0 : List Value} (hX : Okk X Z cc n own l0 d) {Post : Option Value → va_W → Prop} (is : List Nat) (hnd : va_nd is = true) (hC : is.map (fun i => ws[i]?) = wc.map some) (kk : ∀ (v : Option Value) (wc1 : va_W), Post v wc1 → G X Z (putW ws is wc1) (pc + 3) lv (v.toList ++ st))
    (hr : match X with | (p, l, e, R, s, m, args, below, meth, c, kc, ks, Q, nL, A) => ∀ (ls : Array Slot) (H : Heap) (locs : List Loc), lv_has ls nL lv → va_P (zD Z) classes ws H → va_P (zD Z) classes wc H → va_D A wc → s.heap.size ≤ H.size → (∀ U : State, U.heap = H → s.WarmedH U.vm → EN Z U H) → ∃ a : Array Value, va_Run p l e R s m args below meth c H locs kc ks 0 0 (F0 m pc ls st0) st (QcZ Z wc H.size Post a) (va_A wc H.size)) : G X Z ws pc lv st0 := by
  obtain ⟨p, l, e, R, s, m, args, below, meth, c, kc, ks, Q, nL, A⟩ := X
  obtain ⟨hx, hb, hml, hown, hts, hK, hA, hlk, hE, hAB, hzB, hR, rfl, rfl⟩ := hX
  intro ls H locs h hP hD hS
  have hPc : va_P (zD Z) classes wc H := by
    intro k q hq
    have h1 : (is.map (fun i => ws[i]?))[k]? = some (some q) := by rw [hC, List.getElem?_map, hq]; rfl
    rw [List.getElem?_map] at h1
    cases hi : is[k]? with
    | none => rw [hi] at h1; cases h1
    | some i => rw [hi] at h1; exact hP i q (Option.some.inj h1)
  have at' : ∀ (k : Nat) (q : Nat × va_E), wc[k]? = some q → ∃ i : Nat, is[k]? = some i ∧ ws[i]? = some q := by
    intro k q hq
    have h1 : (is.map (fun i => ws[i]?))[k]? = some (some q) := by rw [hC, List.getElem?_map, hq]; rfl
    rw [List.getElem?_map] at h1
    cases hi : is[k]? with
    | none => rw [hi] at h1; cases h1
    | some i => rw [hi] at h1; exact ⟨i, rfl, Option.some.inj h1⟩
  have hF := va_free (wc := wc) hD hS hA is hC
  have hDn : ∀ (i : Nat), i ∈ is → ∃ (k : Nat) (q : Nat × va_E), wc[k]? = some q ∧ ws[i]? = some q := by
    intro i hi
    obtain ⟨k, hk⟩ := List.getElem?_of_mem hi
    have h1 : (wc.map some)[k]? = some (ws[i]?) := by rw [← hC, List.getElem?_map, hk]; rfl
    rw [List.getElem?_map] at h1
    cases hw : wc[k]? with
    | none => rw [hw] at h1; cases h1
    | some q => rw [hw] at h1; exact ⟨k, q, hw, (Option.some.inj h1).symm⟩
  have hEH : EN Z s H := hE.kept (fun a ha hna => hS.2.1 a ha (fun z => hna (hAB a z)))
  have hnd := va_nd_inj is hnd
  · have hDc : va_D A wc := by
      refine ⟨fun i j x y hi hj hxy => ?_, fun k q hq => ?_⟩
      · obtain ⟨a1, b1, b2⟩ := at' i x hi
        obtain ⟨a2, b3, b4⟩ := at' j y hj
        have := hD.1 a1 a2 x y b2 b4 hxy
        subst this
        exact hnd i j a1 b1 b3
      · obtain ⟨a1, b1, b2⟩ := at' k q hq
        exact hD.2 a1 q b2
    intro T hT Xs
    obtain ⟨a, hr⟩ := hr ls H locs h hP hPc hDc hS.1 (fun U hU hW => hEH.warm hW)
    obtain ⟨v, st₀, t, T', L, h0, X', hL, e1, e2, ⟨⟨v1, wc1, hv, hpost, hkeys, hP1⟩, hz, hk⟩, hst⟩ := hr T hT Xs
    cases hv
    rw [h0] at hz hk
    have hlen : is.length = wc1.length := by
      have h1 : is.length = wc.length := by
        have := congrArg List.length hC
        simpa using this
      have h2 : wc1.length = wc.length := by
        have := congrArg List.length hkeys
        simpa using this
      omega
    have hPn : va_P (zD Z) classes (putW ws is wc1) T'.heap := by
      refine putW_P is ws wc1 hlen (fun k q hq hki => ?_) (by rw [e1]; exact hP1)
      have hlt : q.1 < H.size := (hP k q hq).lt
      refine (hP k q hq).kept ?_
      rw [e1]
      refine hk q.1 hlt (fun z => ?_)
      rcases z with ⟨j, e9, hj⟩ | z
      · obtain ⟨i, b1, b2⟩ := at' j (q.1, e9) hj
        have := hD.1 k i q (q.1, e9) hq b2 rfl
        subst this
        exact hki (List.mem_of_getElem? b1)
      · omega
    have hkn : (putW ws is wc1).map (·.1) = ws.map (·.1) := by
      refine putW_keys is ws wc1 ?_
      have h1 : is.map (fun i => (ws.map (·.1))[i]?) = (is.map (fun i => ws[i]?)).map (Option.map (·.1)) := by
        rw [List.map_map]
        apply List.map_congr_left
        intro i _
        rw [List.getElem?_map]
        rfl
      rw [h1, hC, List.map_map]
      have h2 : wc1.map (fun q => some q.1) = (wc1.map (·.1)).map some := by rw [List.map_map]; rfl
      rw [h2, hkeys, List.map_map]
      rfl
    obtain ⟨t2, a1, b1⟩ := kk v wc1 hpost ls T'.heap (locs ++ L) h hPn (va_D_keys hkn hD)
      ⟨Nat.le_trans hS.1 (by rw [e1]; exact hz), fun q h1 h2 => by rw [e1, hk q (Nat.lt_of_lt_of_le h1 hS.1) (fun z => h2 (hF q z))]; exact hS.2.1 q h1 h2, fun q hq => by
        rcases List.mem_append.mp hq with h | h
        · exact hS.2.2 q h
        · exact hF _ (hL q h)⟩ T' rfl X'
    exact ⟨t2, hst t2 a1, b1⟩
end
section
/-! calls: what a method's words say, and a row a kind of call -/
def MV (y : MethodName) (b : ByteArray) (n : Nat) (ret : Option FieldType) (k : Nat) : Prop := Cond.instanceMethod y ∈ UW ∧ Cond.selects y.cls y y ∈ UW ∧ Cond.initialized y.cls ∈ UW ∧ Cond.code y b n ret ∈ UW ∧ (y.cls ≠ "java/lang/invoke/MethodHandle" ∧ y.cls ≠ "java/lang/invoke/VarHandle" ∧ (parseMethodDescriptor y.desc).map (fun d => d.parameters.length) = some k) ∧ n ≤ 18
def MS (y : MethodName) (b : ByteArray) (n : Nat) (ret : Option FieldType) (k : Nat) : Prop := Cond.static y ∈ UW ∧ Cond.initialized y.cls ∈ UW ∧ Cond.code y b n ret ∈ UW ∧ (y.cls ≠ "java/lang/invoke/MethodHandle" ∧ y.cls ≠ "java/lang/invoke/VarHandle" ∧ (parseMethodDescriptor y.desc).map (fun d => d.parameters.length) = some k) ∧ n ≤ 18
/-- the end of a call that answers so, and leaves the cells so -/
def Fn (v : Option Value) (ws1 : va_W) : Option Value → va_W → Prop := fun v' ws' => v' = v ∧ ws' = ws1
theorem g_callV {X : XX} {Z : ZZ} {cc : ByteArray} {n : Nat} {own : String} {l0 : Launch} {d : Nat} {ws wc : va_W} {pc : Nat} {lv : List (Nat × Value)} {st st0 : List Value} (hX : Okk X Z cc n own l0 d) {Post : Option Value → va_W → Prop} {y : MethodName} {b : ByteArray} {n1 d1 idx k a ci N : Nat} {ret : Option FieldType} {As : List Value} {fs : List Value} {T : u_T}
    (con : Con l0 Z y b n1 ret d1 (.ref a :: As) wc Post) (mv : MV y b n1 ret k) (hl : Cond.methodLink own idx y ∈ UW) (hk : As.length = k) (hd1 : d1 + 1 ≤ d) (q0 : Nat) (he : ws[q0]? = some (a, .inr (ci, fs))) (hc : classes[ci]? = some (y.cls, T, N)) (hst : st0 = As.reverse ++ .ref a :: st) (hcat : (st.map fun v => v.category).sum ≤ 8) (hd : decode cc pc = .ok (.invokevirtual idx, 3)) (is : List Nat) (hnd : va_nd is = true) (hC : is.map (fun i => ws[i]?) = wc.map some)
    (kk : ∀ (v : Option Value) (wc1 : va_W), Post v wc1 → G X Z (putW ws is wc1) (pc + 3) lv (v.toList ++ st)) : G X Z ws pc lv st0 := by
  refine g_callC hX is hnd hC kk ?_
  obtain ⟨p, l, e, R, s, m, args, below, meth, c, kc, ks, Q, nL, A⟩ := X
  obtain ⟨hx, hb, hml, hown, hts, hK, hA, hlk, hE, hAB, hzB, hR, rfl, rfl⟩ := hX
  obtain ⟨m1, m2, m3, m4, m5, m6⟩ := mv
  intro ls H locs h hP hPc hDc hsz hEU
  refine ⟨(Value.ref a :: As).toArray, va_runV (As := As) (rest := st) (C := y.cls) (b := a) ⟨hx, hb, hml, hown, hts⟩ (con H.size) (cwV k hts (fun w hw => ?_) rfl rfl rfl ⟨rfl, m5⟩ ⟨?_, ?_⟩) ⟨PcZ.blind Z _ wc _, va_recv (D := zD Z) (cl := classes) hK hP hc he, fun U hU hW => ⟨rfl, by rw [hU], by rw [hU]; exact hPc, va_K.moved hW.alike hK, hDc.weaken (fun _ q _ h => hAB _ h), by rw [hU]; exact hEU U hU hW, fun q hq => hzB q (Nat.le_trans hsz hq)⟩⟩ rfl hk h.1 hst (lv_room hcat) hd ⟨hR.1, hR.2.1⟩⟩
  · have hw' : w = .methodLink own idx y ∨ w = .instanceMethod y ∨ w = .selects y.cls y y ∨ w = .initialized y.cls ∨ w ∈ (Cond.code y b n1 ret :: UW) := by simpa [wsV] using hw
    rcases hw' with rfl | rfl | rfl | rfl | hw'
    · exact ⟨hl, uw_good _ hl⟩
    · exact ⟨m1, uw_good _ m1⟩
    · exact ⟨m2, uw_good _ m2⟩
    · exact ⟨m3, uw_good _ m3⟩
    · exact uw_goodL _ m4 _ hw'
  · exact Nat.le_trans hd1 hR.2.2.1
  · show 8 + (n1 + 11) + 37 * d1 ≤ R.locals
    have := hR.2.2.2
    omega
theorem g_callS {X : XX} {Z : ZZ} {cc : ByteArray} {n : Nat} {own : String} {l0 : Launch} {d : Nat} {ws wc : va_W} {pc : Nat} {lv : List (Nat × Value)} {st st0 : List Value} (hX : Okk X Z cc n own l0 d) {Post : Option Value → va_W → Prop} {y : MethodName} {b : ByteArray} {n1 d1 idx k : Nat} {ret : Option FieldType} {As : List Value}
    (con : Con l0 Z y b n1 ret d1 As wc Post) (mv : MS y b n1 ret k) (hl : Cond.methodLink own idx y ∈ UW) (hk : As.length = k) (hd1 : d1 + 1 ≤ d) (hst : st0 = As.reverse ++ st) (hcat : (st.map fun v => v.category).sum ≤ 8) (hd : decode cc pc = .ok (.invokestatic idx, 3)) (is : List Nat) (hnd : va_nd is = true) (hC : is.map (fun i => ws[i]?) = wc.map some)
    (kk : ∀ (v : Option Value) (wc1 : va_W), Post v wc1 → G X Z (putW ws is wc1) (pc + 3) lv (v.toList ++ st)) : G X Z ws pc lv st0 := by
  refine g_callC hX is hnd hC kk ?_
  obtain ⟨p, l, e, R, s, m, args, below, meth, c, kc, ks, Q, nL, A⟩ := X
  obtain ⟨hx, hb, hml, hown, hts, hK, hA, hlk, hE, hAB, hzB, hR, rfl, rfl⟩ := hX
  obtain ⟨m2, m3, m4, m5, m6⟩ := mv
  intro ls H locs h hP hPc hDc hsz hEU
  refine ⟨As.toArray, va_runS (As := As) (rest := st) ⟨hx, hb, hml, hown, hts⟩ (con H.size) ⟨callB_of k hts (uw_goodL _ m4) rfl rfl rfl (hts _ m3) (hts _ hl) m5 ⟨?_, ?_⟩, hts _ m2⟩ ⟨PcZ.blind Z _ wc _, fun U hU hW => ⟨rfl, by rw [hU], by rw [hU]; exact hPc, va_K.moved hW.alike hK, hDc.weaken (fun _ q _ h => hAB _ h), by rw [hU]; exact hEU U hU hW, fun q hq => hzB q (Nat.le_trans hsz hq)⟩⟩ rfl hk h.1 hst (lv_room hcat) hd ⟨hR.1, hR.2.1⟩⟩
  · exact Nat.le_trans hd1 hR.2.2.1
  · show 8 + (n1 + 11) + 37 * d1 ≤ R.locals
    have := hR.2.2.2
    omega
theorem g_callN {X : XX} {Z : ZZ} {cc : ByteArray} {n : Nat} {own host : String} {l0 : Launch} {d : Nat} {ws wc : va_W} {pc : Nat} {lv : List (Nat × Value)} {st st0 : List Value} (hX : Okk X Z cc n own l0 d) {Post : Option Value → va_W → Prop} {y : MethodName} {b : ByteArray} {n1 d1 idx k : Nat} {ret : Option FieldType} {As : List Value}
    (con : Con l0 Z y b n1 ret d1 As wc Post) (mv : MS y b n1 ret k) (hl : ∀ U H, EN Z U H → va_Nw (.methodLinkNest own idx y host) U) (hk : As.length = k) (hd1 : d1 + 1 ≤ d) (hst : st0 = As.reverse ++ st) (hcat : (st.map fun v => v.category).sum ≤ 8) (hd : decode cc pc = .ok (.invokestatic idx, 3)) (is : List Nat) (hnd : va_nd is = true) (hC : is.map (fun i => ws[i]?) = wc.map some)
    (kk : ∀ (v : Option Value) (wc1 : va_W), Post v wc1 → G X Z (putW ws is wc1) (pc + 3) lv (v.toList ++ st)) : G X Z ws pc lv st0 := by
  refine g_callC hX is hnd hC kk ?_
  obtain ⟨p, l, e, R, s, m, args, below, meth, c, kc, ks, Q, nL, A⟩ := X
  obtain ⟨hx, hb, hml, hown, hts, hK, hA, hlk, hE, hAB, hzB, hR, rfl, rfl⟩ := hX
  obtain ⟨m2, m3, m4, m5, m6⟩ := mv
  intro ls H locs h hP hPc hDc hsz hEU
  refine ⟨As.toArray, va_runSN (As := As) (rest := st) ⟨hx, hb, hml, hown, hts⟩ (con H.size) ⟨va_cnB k hts (uw_goodL _ m4) rfl rfl rfl (hl s _ hE) (hts _ m3) m5 ⟨?_, ?_⟩, hts _ m2, trivial⟩ ⟨PcZ.blind Z _ wc _, fun U hU hW => ⟨rfl, by rw [hU], by rw [hU]; exact hPc, va_K.moved hW.alike hK, hDc.weaken (fun _ q _ h => hAB _ h), by rw [hU]; exact hEU U hU hW, fun q hq => hzB q (Nat.le_trans hsz hq)⟩⟩ rfl hk h.1 hst (lv_room hcat) hd ⟨hR.1, hR.2.1⟩⟩
  · exact Nat.le_trans hd1 hR.2.2.1
  · show 8 + (n1 + 11) + 37 * d1 ≤ R.locals
    have := hR.2.2.2
    omega
theorem g_fn {X : XX} {Z : ZZ} {ws ws1 wc1 : va_W} {pc : Nat} {lv : List (Nat × Value)} {st st1 : List Value} {is : List Nat} {v : Option Value} (hw : putW ws is wc1 = ws1) (hs : v.toList ++ st = st1) (kk : G X Z ws1 (pc + 3) lv st1) : ∀ (v' : Option Value) (w' : va_W), Fn v wc1 v' w' → G X Z (putW ws is w') (pc + 3) lv (v'.toList ++ st) := by
  rintro _ _ ⟨rfl, rfl⟩
  rw [hw, hs]
  exact kk
-- loops
theorem loopUp (P : Nat → Prop) (N : Nat) (hx : P N) (hs : ∀ i, i < N → P (i + 1) → P i) : ∀ i, i ≤ N → P i := by
  intro i hi
  obtain ⟨k, rfl⟩ : ∃ k, N = i + k := ⟨N - i, by omega⟩
  induction k generalizing i with
  | zero => exact hx
  | succ k ih => exact hs i (by omega) (ih (i + 1) (by rw [show i + 1 + k = i + (k + 1) by omega]; exact hx) (fun j hj => hs j (by omega)) (by omega))
-- the state: rows of ints, by numbers
abbrev St : Type := Nat → Nat → Int32
def sw (S : St) (k i : Nat) (v : Int32) : St := fun a => if a = k then upd (S a) i v else S a
theorem sw_eq (S : St) (k i : Nat) (v : Int32) : sw S k i v k = upd (S k) i v := if_pos rfl
theorem sw_ne (S : St) {k a : Nat} (i : Nat) (v : Int32) (h : a ≠ k) : sw S k i v a = S a := if_neg h
abbrev wB (Z : ZZ) (h : Nat) (q : Nat → Nat) (S : St) : va_W := [(h, .inr (0, [.ref (q 0), .ref (q 1), .ref (q 2), .ref (q 3), .ref (q 4), .ref (q 5), .ref (q 6), .int (S 12 0), .ref (q 7), .ref (q 8), .ref (q 9), .ref (q 10), .int (S 12 1), .ref (q 11), .int (S 12 2), .int (S 12 3)])), (q 0, .inl (zI Z, 6, .inl (S 0))), (q 1, .inl (zI Z, 6, .inl (S 1))), (q 2, .inl (zI Z, 7, .inl (S 2))), (q 3, .inl (zI Z, 7, .inl (S 3))), (q 4, .inl (zI Z, 7, .inl (S 4))), (q 5, .inl (zI Z, 7, .inl (S 5))), (q 6, .inl (zI Z, 7, .inl (S 6))), (q 7, .inl (zI Z, 5, .inl (S 7))), (q 8, .inl (zI Z, 5, .inl (S 8))), (q 9, .inl (zI Z, 5, .inl (S 9))), (q 10, .inl (zI Z, 5, .inl (S 10))), (q 11, .inl (zI Z, 6, .inl (S 11)))]
abbrev wT (Z : ZZ) (h : Nat) (q : Nat → Nat) (S : St) : va_W := [(h, .inr (1, [.ref (q 0), .int (S 1 0)])), (q 0, .inl (zI Z, 96, .inl (S 0)))]
abbrev wW (Z : ZZ) (h : Nat) (q : Nat → Nat) (S : St) : va_W := [(h, .inr (2, [.ref (q 7), .ref (q 8)])), (q 0, .inl (zI Z, 7, .inl (S 0))), (q 1, .inl (zI Z, 7, .inl (S 1))), (q 2, .inl (zI Z, 7, .inl (S 2))), (q 3, .inl (zI Z, 7, .inl (S 3))), (q 4, .inl (zI Z, 7, .inl (S 4))), (q 5, .inl (zI Z, 7, .inl (S 5))), (q 6, .inl (zI Z, 7, .inl (S 6))), (q 7, .inl (zJ Z, 7, .inr (.inr (.inr (.inr (fun i => if i < 7 then some (q i) else none)))))), (q 8, .inl (zI Z, 896, .inl (S 8)))]
abbrev wM (Z : ZZ) (h : Nat) (q : Nat → Nat) (S : St) : va_W := [(h, .inr (4, [.ref (q 0), .ref (q 1), .int (S 12 0), .ref (q 2), .ref (q 3), .ref (q 4), .ref (q 5), .ref (q 6), .int (S 12 1), .ref (q 7), .ref (q 8), .ref (q 9), .ref (q 10), .int (S 12 2), .ref (q 11), .int (S 12 3), .int (S 12 4), .ref (q 13), .int (S 12 5), .ref (q 14), .int (S 12 6), .ref (q 15), .ref (q 16), .int (S 12 7), .ref (q 17), .ref (q 18), .ref (q 19), .ref (q 20), .ref (q 21)])), (q 0, .inl (zI Z, 6, .inl (S 0))), (q 1, .inl (zI Z, 6, .inl (S 1))), (q 2, .inl (zI Z, 8, .inl (S 2))), (q 3, .inl (zI Z, 8, .inl (S 3))), (q 4, .inl (zI Z, 8, .inl (S 4))), (q 5, .inl (zI Z, 8, .inl (S 5))), (q 6, .inl (zI Z, 8, .inl (S 6))), (q 7, .inl (zI Z, 5, .inl (S 7))), (q 8, .inl (zI Z, 5, .inl (S 8))), (q 9, .inl (zI Z, 5, .inl (S 9))), (q 10, .inl (zI Z, 5, .inl (S 10))), (q 11, .inl (zI Z, 7, .inl (S 11))), (q 13, .inl (zI Z, 96, .inl (S 13))), (q 14, .inl (zI Z, 4, .inl (S 14))), (q 15, .inl (zI Z, 12, .inl (S 15))), (q 16, .inl (zI Z, 7, .inl (S 16))), (q 17, .inl (zI Z, 77, .inl (S 17))), (q 18, .inl (zI Z, 77, .inl (S 18))), (q 19, .inl (zI Z, 7, .inl (S 19))), (q 20, .inl (zI Z, 896, .inl (S 20))), (q 21, .inl (zI Z, 7, .inl (S 21)))]
abbrev wX (Z : ZZ) (a : Nat → Nat → Nat) (Sn Sm Sk T L U : St) : va_W := [(a 0 0, .inr (3, [.ref (a 1 0), .ref (a 2 0), .ref (a 3 0), .int (U 0 0), .ref (a 4 0), .ref (a 5 0), .ref (a 0 1), .int (U 0 1), .ref (a 0 2)])), (a 0 1, .inl (zI Z, 12, .inl (U 1))), (a 0 2, .inl (zI Z, 7, .inl (U 2)))] ++ (wB Z (a 1 0) (fun k => a 1 (k + 1)) Sn ++ (wB Z (a 2 0) (fun k => a 2 (k + 1)) Sm ++ (wB Z (a 3 0) (fun k => a 3 (k + 1)) Sk ++ (wT Z (a 4 0) (fun k => a 4 (k + 1)) T ++ wW Z (a 5 0) (fun k => a 5 (k + 1)) L))))
end

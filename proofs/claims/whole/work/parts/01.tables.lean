-- ===== PART A: goes FIRST, ahead of the names: the tables' words, and 'selects' of the private methods out of them =====
/-- a private method of a class that the tables say can be made, by its rows of tables_1 -/
def lw_okq (q : MethodName × Nat) : Prop := (q.1.cls ≠ "java/lang/invoke/MethodHandle" ∧ q.1.cls ≠ "java/lang/invoke/VarHandle") ∧ Cond.instantiable q.1.cls q.2 ∈ tables_1 ∧ Cond.privateMethod q.1 ∈ tables_1 ∧ Cond.instanceMethod q.1 ∈ tables_1
theorem lw_p0 : lw_okq (⟨"NeverBothDoors", "refuse", "(I)I"⟩, 9) := ⟨⟨by decide +kernel, by decide +kernel⟩, List.mem_of_getElem? (i := 16) (by decide +kernel), List.mem_of_getElem? (i := 164) (by decide +kernel), List.mem_of_getElem? (i := 165) (by decide +kernel)⟩
theorem lw_p1 : lw_okq (⟨"NeverBothDoors", "readBurrow", "()I"⟩, 9) := ⟨⟨by decide +kernel, by decide +kernel⟩, List.mem_of_getElem? (i := 16) (by decide +kernel), List.mem_of_getElem? (i := 176) (by decide +kernel), List.mem_of_getElem? (i := 177) (by decide +kernel)⟩
theorem lw_p2 : lw_okq (⟨"NeverBothDoors$Text", "isDue", "(CI)Z"⟩, 2) := ⟨⟨by decide +kernel, by decide +kernel⟩, List.mem_of_getElem? (i := 102) (by decide +kernel), List.mem_of_getElem? (i := 252) (by decide +kernel), List.mem_of_getElem? (i := 253) (by decide +kernel)⟩
theorem lw_p3 : lw_okq (⟨"NeverBothDoors", "comesToMind", "(I)Z"⟩, 9) := ⟨⟨by decide +kernel, by decide +kernel⟩, List.mem_of_getElem? (i := 16) (by decide +kernel), List.mem_of_getElem? (i := 270) (by decide +kernel), List.mem_of_getElem? (i := 271) (by decide +kernel)⟩
theorem lw_p4 : lw_okq (⟨"NeverBothDoors$Ways", "join", "(III)V"⟩, 2) := ⟨⟨by decide +kernel, by decide +kernel⟩, List.mem_of_getElem? (i := 116) (by decide +kernel), List.mem_of_getElem? (i := 416) (by decide +kernel), List.mem_of_getElem? (i := 417) (by decide +kernel)⟩
theorem lw_p5 : lw_okq (⟨"NeverBothDoors$Ways", "shortenBy", "(I)V"⟩, 2) := ⟨⟨by decide +kernel, by decide +kernel⟩, List.mem_of_getElem? (i := 116) (by decide +kernel), List.mem_of_getElem? (i := 422) (by decide +kernel), List.mem_of_getElem? (i := 423) (by decide +kernel)⟩
theorem lw_p6 : lw_okq (⟨"NeverBothDoors", "bestNewLock", "()I"⟩, 9) := ⟨⟨by decide +kernel, by decide +kernel⟩, List.mem_of_getElem? (i := 16) (by decide +kernel), List.mem_of_getElem? (i := 450) (by decide +kernel), List.mem_of_getElem? (i := 451) (by decide +kernel)⟩
theorem lw_p7 : lw_okq (⟨"NeverBothDoors", "longestWith", "(I)I"⟩, 9) := ⟨⟨by decide +kernel, by decide +kernel⟩, List.mem_of_getElem? (i := 16) (by decide +kernel), List.mem_of_getElem? (i := 454) (by decide +kernel), List.mem_of_getElem? (i := 455) (by decide +kernel)⟩
theorem lw_p8 : lw_okq (⟨"NeverBothDoors$Ways", "goOnFrom", "(III)V"⟩, 2) := ⟨⟨by decide +kernel, by decide +kernel⟩, List.mem_of_getElem? (i := 116) (by decide +kernel), List.mem_of_getElem? (i := 472) (by decide +kernel), List.mem_of_getElem? (i := 473) (by decide +kernel)⟩
theorem lw_p9 : lw_okq (⟨"NeverBothDoors", "waysToLeak", "(I)I"⟩, 9) := ⟨⟨by decide +kernel, by decide +kernel⟩, List.mem_of_getElem? (i := 16) (by decide +kernel), List.mem_of_getElem? (i := 511) (by decide +kernel), List.mem_of_getElem? (i := 512) (by decide +kernel)⟩
theorem lw_p10 : lw_okq (⟨"NeverBothDoors", "roomsUnlikeTold", "(I)I"⟩, 9) := ⟨⟨by decide +kernel, by decide +kernel⟩, List.mem_of_getElem? (i := 16) (by decide +kernel), List.mem_of_getElem? (i := 515) (by decide +kernel), List.mem_of_getElem? (i := 516) (by decide +kernel)⟩
theorem lw_p11 : lw_okq (⟨"NeverBothDoors", "isAsTold", "(III)Z"⟩, 9) := ⟨⟨by decide +kernel, by decide +kernel⟩, List.mem_of_getElem? (i := 16) (by decide +kernel), List.mem_of_getElem? (i := 519) (by decide +kernel), List.mem_of_getElem? (i := 520) (by decide +kernel)⟩
theorem lw_p12 : lw_okq (⟨"NeverBothDoors", "wouldMakeAllSo", "(IIII)Z"⟩, 9) := ⟨⟨by decide +kernel, by decide +kernel⟩, List.mem_of_getElem? (i := 16) (by decide +kernel), List.mem_of_getElem? (i := 523) (by decide +kernel), List.mem_of_getElem? (i := 524) (by decide +kernel)⟩
theorem lw_p13 : lw_okq (⟨"NeverBothDoors", "firstToLeak", "(I)I"⟩, 9) := ⟨⟨by decide +kernel, by decide +kernel⟩, List.mem_of_getElem? (i := 16) (by decide +kernel), List.mem_of_getElem? (i := 527) (by decide +kernel), List.mem_of_getElem? (i := 528) (by decide +kernel)⟩
theorem lw_p14 : lw_okq (⟨"NeverBothDoors", "passToldInMind", "()I"⟩, 9) := ⟨⟨by decide +kernel, by decide +kernel⟩, List.mem_of_getElem? (i := 16) (by decide +kernel), List.mem_of_getElem? (i := 535) (by decide +kernel), List.mem_of_getElem? (i := 536) (by decide +kernel)⟩
theorem lw_p15 : lw_okq (⟨"NeverBothDoors", "passBySeeds", "(II)I"⟩, 9) := ⟨⟨by decide +kernel, by decide +kernel⟩, List.mem_of_getElem? (i := 16) (by decide +kernel), List.mem_of_getElem? (i := 551) (by decide +kernel), List.mem_of_getElem? (i := 552) (by decide +kernel)⟩
def lw_privs_1 : List (MethodName × Nat) := [(⟨"NeverBothDoors", "refuse", "(I)I"⟩, 9), (⟨"NeverBothDoors", "readBurrow", "()I"⟩, 9), (⟨"NeverBothDoors$Text", "isDue", "(CI)Z"⟩, 2), (⟨"NeverBothDoors", "comesToMind", "(I)Z"⟩, 9), (⟨"NeverBothDoors$Ways", "join", "(III)V"⟩, 2), (⟨"NeverBothDoors$Ways", "shortenBy", "(I)V"⟩, 2), (⟨"NeverBothDoors", "bestNewLock", "()I"⟩, 9), (⟨"NeverBothDoors", "longestWith", "(I)I"⟩, 9), (⟨"NeverBothDoors$Ways", "goOnFrom", "(III)V"⟩, 2), (⟨"NeverBothDoors", "waysToLeak", "(I)I"⟩, 9), (⟨"NeverBothDoors", "roomsUnlikeTold", "(I)I"⟩, 9), (⟨"NeverBothDoors", "isAsTold", "(III)Z"⟩, 9), (⟨"NeverBothDoors", "wouldMakeAllSo", "(IIII)Z"⟩, 9), (⟨"NeverBothDoors", "firstToLeak", "(I)I"⟩, 9), (⟨"NeverBothDoors", "passToldInMind", "()I"⟩, 9), (⟨"NeverBothDoors", "passBySeeds", "(II)I"⟩, 9)]
theorem lw_r1 : ∀ q ∈ lw_privs_1, lw_okq q := List.forall_mem_cons.mpr ⟨lw_p0, List.forall_mem_cons.mpr ⟨lw_p1, List.forall_mem_cons.mpr ⟨lw_p2, List.forall_mem_cons.mpr ⟨lw_p3, List.forall_mem_cons.mpr ⟨lw_p4, List.forall_mem_cons.mpr ⟨lw_p5, List.forall_mem_cons.mpr ⟨lw_p6, List.forall_mem_cons.mpr ⟨lw_p7, List.forall_mem_cons.mpr ⟨lw_p8, List.forall_mem_cons.mpr ⟨lw_p9, List.forall_mem_cons.mpr ⟨lw_p10, List.forall_mem_cons.mpr ⟨lw_p11, List.forall_mem_cons.mpr ⟨lw_p12, List.forall_mem_cons.mpr ⟨lw_p13, List.forall_mem_cons.mpr ⟨lw_p14, List.forall_mem_cons.mpr ⟨lw_p15, fun _ h => absurd h List.not_mem_nil⟩⟩⟩⟩⟩⟩⟩⟩⟩⟩⟩⟩⟩⟩⟩⟩
theorem lw_p16 : lw_okq (⟨"NeverBothDoorsModel", "no", "(I)I"⟩, 29) := ⟨⟨by decide +kernel, by decide +kernel⟩, List.mem_of_getElem? (i := 579) (by decide +kernel), List.mem_of_getElem? (i := 677) (by decide +kernel), List.mem_of_getElem? (i := 678) (by decide +kernel)⟩
theorem lw_p17 : lw_okq (⟨"NeverBothDoorsModel", "statement", "(Z)I"⟩, 29) := ⟨⟨by decide +kernel, by decide +kernel⟩, List.mem_of_getElem? (i := 579) (by decide +kernel), List.mem_of_getElem? (i := 685) (by decide +kernel), List.mem_of_getElem? (i := 686) (by decide +kernel)⟩
theorem lw_p18 : lw_okq (⟨"NeverBothDoorsModel", "is", "(I)Z"⟩, 29) := ⟨⟨by decide +kernel, by decide +kernel⟩, List.mem_of_getElem? (i := 579) (by decide +kernel), List.mem_of_getElem? (i := 689) (by decide +kernel), List.mem_of_getElem? (i := 690) (by decide +kernel)⟩
theorem lw_p19 : lw_okq (⟨"NeverBothDoorsModel", "number", "(II)Z"⟩, 29) := ⟨⟨by decide +kernel, by decide +kernel⟩, List.mem_of_getElem? (i := 579) (by decide +kernel), List.mem_of_getElem? (i := 693) (by decide +kernel), List.mem_of_getElem? (i := 694) (by decide +kernel)⟩
theorem lw_p20 : lw_okq (⟨"NeverBothDoorsModel", "isDigit", "()Z"⟩, 29) := ⟨⟨by decide +kernel, by decide +kernel⟩, List.mem_of_getElem? (i := 579) (by decide +kernel), List.mem_of_getElem? (i := 697) (by decide +kernel), List.mem_of_getElem? (i := 698) (by decide +kernel)⟩
theorem lw_p21 : lw_okq (⟨"NeverBothDoorsModel", "newLock", "(IIII)V"⟩, 29) := ⟨⟨by decide +kernel, by decide +kernel⟩, List.mem_of_getElem? (i := 579) (by decide +kernel), List.mem_of_getElem? (i := 701) (by decide +kernel), List.mem_of_getElem? (i := 702) (by decide +kernel)⟩
theorem lw_p22 : lw_okq (⟨"NeverBothDoorsModel", "keep", "([I)V"⟩, 29) := ⟨⟨by decide +kernel, by decide +kernel⟩, List.mem_of_getElem? (i := 579) (by decide +kernel), List.mem_of_getElem? (i := 766) (by decide +kernel), List.mem_of_getElem? (i := 767) (by decide +kernel)⟩
theorem lw_p23 : lw_okq (⟨"NeverBothDoorsModel", "again", "([I)V"⟩, 29) := ⟨⟨by decide +kernel, by decide +kernel⟩, List.mem_of_getElem? (i := 579) (by decide +kernel), List.mem_of_getElem? (i := 770) (by decide +kernel), List.mem_of_getElem? (i := 771) (by decide +kernel)⟩
theorem lw_p24 : lw_okq (⟨"NeverBothDoorsModel", "there", "(I)I"⟩, 29) := ⟨⟨by decide +kernel, by decide +kernel⟩, List.mem_of_getElem? (i := 579) (by decide +kernel), List.mem_of_getElem? (i := 781) (by decide +kernel), List.mem_of_getElem? (i := 782) (by decide +kernel)⟩
theorem lw_p25 : lw_okq (⟨"NeverBothDoorsModel", "breathed", "(I)I"⟩, 29) := ⟨⟨by decide +kernel, by decide +kernel⟩, List.mem_of_getElem? (i := 579) (by decide +kernel), List.mem_of_getElem? (i := 785) (by decide +kernel), List.mem_of_getElem? (i := 786) (by decide +kernel)⟩
theorem lw_p26 : lw_okq (⟨"NeverBothDoorsModel", "breath", "(I)I"⟩, 29) := ⟨⟨by decide +kernel, by decide +kernel⟩, List.mem_of_getElem? (i := 579) (by decide +kernel), List.mem_of_getElem? (i := 789) (by decide +kernel), List.mem_of_getElem? (i := 790) (by decide +kernel)⟩
theorem lw_p27 : lw_okq (⟨"NeverBothDoorsModel", "isLock", "(I)Z"⟩, 29) := ⟨⟨by decide +kernel, by decide +kernel⟩, List.mem_of_getElem? (i := 579) (by decide +kernel), List.mem_of_getElem? (i := 797) (by decide +kernel), List.mem_of_getElem? (i := 798) (by decide +kernel)⟩
theorem lw_p28 : lw_okq (⟨"NeverBothDoorsModel", "isOne", "(I)Z"⟩, 29) := ⟨⟨by decide +kernel, by decide +kernel⟩, List.mem_of_getElem? (i := 579) (by decide +kernel), List.mem_of_getElem? (i := 805) (by decide +kernel), List.mem_of_getElem? (i := 806) (by decide +kernel)⟩
theorem lw_p29 : lw_okq (⟨"NeverBothDoorsModel", "canPass", "(II)Z"⟩, 29) := ⟨⟨by decide +kernel, by decide +kernel⟩, List.mem_of_getElem? (i := 579) (by decide +kernel), List.mem_of_getElem? (i := 817) (by decide +kernel), List.mem_of_getElem? (i := 818) (by decide +kernel)⟩
theorem lw_p30 : lw_okq (⟨"NeverBothDoorsModel", "pass", "(II)I"⟩, 29) := ⟨⟨by decide +kernel, by decide +kernel⟩, List.mem_of_getElem? (i := 579) (by decide +kernel), List.mem_of_getElem? (i := 821) (by decide +kernel), List.mem_of_getElem? (i := 822) (by decide +kernel)⟩
theorem lw_p31 : lw_okq (⟨"NeverBothDoorsModel", "goBy", "(I)I"⟩, 29) := ⟨⟨by decide +kernel, by decide +kernel⟩, List.mem_of_getElem? (i := 579) (by decide +kernel), List.mem_of_getElem? (i := 825) (by decide +kernel), List.mem_of_getElem? (i := 826) (by decide +kernel)⟩
def lw_privs_2 : List (MethodName × Nat) := [(⟨"NeverBothDoorsModel", "no", "(I)I"⟩, 29), (⟨"NeverBothDoorsModel", "statement", "(Z)I"⟩, 29), (⟨"NeverBothDoorsModel", "is", "(I)Z"⟩, 29), (⟨"NeverBothDoorsModel", "number", "(II)Z"⟩, 29), (⟨"NeverBothDoorsModel", "isDigit", "()Z"⟩, 29), (⟨"NeverBothDoorsModel", "newLock", "(IIII)V"⟩, 29), (⟨"NeverBothDoorsModel", "keep", "([I)V"⟩, 29), (⟨"NeverBothDoorsModel", "again", "([I)V"⟩, 29), (⟨"NeverBothDoorsModel", "there", "(I)I"⟩, 29), (⟨"NeverBothDoorsModel", "breathed", "(I)I"⟩, 29), (⟨"NeverBothDoorsModel", "breath", "(I)I"⟩, 29), (⟨"NeverBothDoorsModel", "isLock", "(I)Z"⟩, 29), (⟨"NeverBothDoorsModel", "isOne", "(I)Z"⟩, 29), (⟨"NeverBothDoorsModel", "canPass", "(II)Z"⟩, 29), (⟨"NeverBothDoorsModel", "pass", "(II)I"⟩, 29), (⟨"NeverBothDoorsModel", "goBy", "(I)I"⟩, 29)]
theorem lw_r2 : ∀ q ∈ lw_privs_2, lw_okq q := List.forall_mem_cons.mpr ⟨lw_p16, List.forall_mem_cons.mpr ⟨lw_p17, List.forall_mem_cons.mpr ⟨lw_p18, List.forall_mem_cons.mpr ⟨lw_p19, List.forall_mem_cons.mpr ⟨lw_p20, List.forall_mem_cons.mpr ⟨lw_p21, List.forall_mem_cons.mpr ⟨lw_p22, List.forall_mem_cons.mpr ⟨lw_p23, List.forall_mem_cons.mpr ⟨lw_p24, List.forall_mem_cons.mpr ⟨lw_p25, List.forall_mem_cons.mpr ⟨lw_p26, List.forall_mem_cons.mpr ⟨lw_p27, List.forall_mem_cons.mpr ⟨lw_p28, List.forall_mem_cons.mpr ⟨lw_p29, List.forall_mem_cons.mpr ⟨lw_p30, List.forall_mem_cons.mpr ⟨lw_p31, fun _ h => absurd h List.not_mem_nil⟩⟩⟩⟩⟩⟩⟩⟩⟩⟩⟩⟩⟩⟩⟩⟩
theorem lw_p32 : lw_okq (⟨"NeverBothDoorsModel", "walk", "(I)V"⟩, 29) := ⟨⟨by decide +kernel, by decide +kernel⟩, List.mem_of_getElem? (i := 579) (by decide +kernel), List.mem_of_getElem? (i := 856) (by decide +kernel), List.mem_of_getElem? (i := 857) (by decide +kernel)⟩
theorem lw_p33 : lw_okq (⟨"NeverBothDoorsModel", "canHave", "(I)Z"⟩, 29) := ⟨⟨by decide +kernel, by decide +kernel⟩, List.mem_of_getElem? (i := 579) (by decide +kernel), List.mem_of_getElem? (i := 888) (by decide +kernel), List.mem_of_getElem? (i := 889) (by decide +kernel)⟩
theorem lw_p34 : lw_okq (⟨"NeverBothDoorsModel", "isSo", "(I)Z"⟩, 29) := ⟨⟨by decide +kernel, by decide +kernel⟩, List.mem_of_getElem? (i := 579) (by decide +kernel), List.mem_of_getElem? (i := 901) (by decide +kernel), List.mem_of_getElem? (i := 902) (by decide +kernel)⟩
theorem lw_p35 : lw_okq (⟨"NeverBothDoorsModel", "judged", "()I"⟩, 29) := ⟨⟨by decide +kernel, by decide +kernel⟩, List.mem_of_getElem? (i := 579) (by decide +kernel), List.mem_of_getElem? (i := 909) (by decide +kernel), List.mem_of_getElem? (i := 910) (by decide +kernel)⟩
def lw_privs_3 : List (MethodName × Nat) := [(⟨"NeverBothDoorsModel", "walk", "(I)V"⟩, 29), (⟨"NeverBothDoorsModel", "canHave", "(I)Z"⟩, 29), (⟨"NeverBothDoorsModel", "isSo", "(I)Z"⟩, 29), (⟨"NeverBothDoorsModel", "judged", "()I"⟩, 29)]
theorem lw_r3 : ∀ q ∈ lw_privs_3, lw_okq q := List.forall_mem_cons.mpr ⟨lw_p32, List.forall_mem_cons.mpr ⟨lw_p33, List.forall_mem_cons.mpr ⟨lw_p34, List.forall_mem_cons.mpr ⟨lw_p35, fun _ h => absurd h List.not_mem_nil⟩⟩⟩⟩
def lw_privs : List (MethodName × Nat) := lw_privs_1 ++ (lw_privs_2 ++ (lw_privs_3))
def lw_tbl : List Cond := k2_sels lw_privs ++ tables_1
theorem lw_privs_ok : ∀ q ∈ lw_privs, lw_okq q := by
  show ∀ q ∈ lw_privs_1 ++ (lw_privs_2 ++ (lw_privs_3)), lw_okq q
  exact List.forall_mem_append.mpr ⟨lw_r1, List.forall_mem_append.mpr ⟨lw_r2, lw_r3⟩⟩
/-! the words of the tables that hold on, all of them: each contract speaks over these -/
def UW : List Cond := lw_tbl.filter goodWord
theorem uw_in {w : Cond} (i : Nat) (h : lw_tbl[i]? = some w) (g : goodWord w = true) : w ∈ UW := List.mem_filter.mpr ⟨List.mem_of_getElem? h, g⟩
theorem uw_good : ∀ w ∈ UW, (w.onTables && w.keeps) = true ∨ ∃ ty, w = .arrayClass ty := fun w h => good_of_word (List.mem_filter.mp h).2
theorem uw_goodIn (a b : Cond) (h : b ∈ UW) : GoodIn (a :: UW) (b :: UW) := fun w hw => by
  rcases List.mem_cons.mp hw with rfl | hw
  · exact ⟨List.mem_cons_of_mem _ h, uw_good _ h⟩
  · exact ⟨List.mem_cons_of_mem _ hw, uw_good _ hw⟩
theorem uw_goodL (b : Cond) (h : b ∈ UW) : GoodIn UW (b :: UW) := fun w hw => by
  rcases List.mem_cons.mp hw with rfl | hw
  · exact ⟨h, uw_good _ h⟩
  · exact ⟨hw, uw_good _ hw⟩
abbrev cX_init : ByteArray := prog_1_method_1_code
def yX_init : MethodName := ⟨"NeverBothDoors", "<init>", "()V"⟩
abbrev cX_air : ByteArray := prog_1_method_11_code
def yX_air : MethodName := ⟨"NeverBothDoors", "air", "(II)I"⟩
abbrev cX_bare : ByteArray := prog_1_method_20_code
def yX_bare : MethodName := ⟨"NeverBothDoors", "bare", "()I"⟩
abbrev cX_bestNewLock : ByteArray := prog_1_method_39_code
def yX_bestNewLock : MethodName := ⟨"NeverBothDoors", "bestNewLock", "()I"⟩
abbrev cX_breathOfKind : ByteArray := prog_1_method_38_code
def yX_breathOfKind : MethodName := ⟨"NeverBothDoors", "breathOfKind", "(IZ)I"⟩
abbrev cX_burrow : ByteArray := prog_1_method_3_code
def yX_burrow : MethodName := ⟨"NeverBothDoors", "burrow", "()I"⟩
abbrev cX_clear : ByteArray := prog_1_method_25_code
def yX_clear : MethodName := ⟨"NeverBothDoors", "clear", "()I"⟩
abbrev cX_comesToMind : ByteArray := prog_1_method_36_code
def yX_comesToMind : MethodName := ⟨"NeverBothDoors", "comesToMind", "(I)Z"⟩
abbrev cX_count : ByteArray := prog_1_method_29_code
def yX_count : MethodName := ⟨"NeverBothDoors", "count", "(I)I"⟩
abbrev cX_drawn : ByteArray := prog_1_method_49_code
def yX_drawn : MethodName := ⟨"NeverBothDoors", "drawn", "(II)I"⟩
abbrev cX_ends : ByteArray := prog_1_method_24_code
def yX_ends : MethodName := ⟨"NeverBothDoors", "ends", "()I"⟩
abbrev cX_errands : ByteArray := prog_1_method_18_code
def yX_errands : MethodName := ⟨"NeverBothDoors", "errands", "(II)I"⟩
abbrev cX_farthest : ByteArray := prog_1_method_16_code
def yX_farthest : MethodName := ⟨"NeverBothDoors", "farthest", "(I)I"⟩
abbrev cX_firstToLeak : ByteArray := prog_1_method_45_code
def yX_firstToLeak : MethodName := ⟨"NeverBothDoors", "firstToLeak", "(I)I"⟩
abbrev cX_fitted : ByteArray := prog_1_method_19_code
def yX_fitted : MethodName := ⟨"NeverBothDoors", "fitted", "()I"⟩
abbrev cX_gasps : ByteArray := prog_1_method_12_code
def yX_gasps : MethodName := ⟨"NeverBothDoors", "gasps", "(I)I"⟩
abbrev cX_gauges : ByteArray := prog_1_method_22_code
def yX_gauges : MethodName := ⟨"NeverBothDoors", "gauges", "(II)I"⟩
abbrev cX_image : ByteArray := prog_1_method_27_code
def yX_image : MethodName := ⟨"NeverBothDoors", "image", "()I"⟩
abbrev cX_isAsTold : ByteArray := prog_1_method_41_code
def yX_isAsTold : MethodName := ⟨"NeverBothDoors", "isAsTold", "(III)Z"⟩
abbrev cX_isPlace : ByteArray := prog_1_method_32_code
def yX_isPlace : MethodName := ⟨"NeverBothDoors", "isPlace", "(I)Z"⟩
abbrev cX_isRoom : ByteArray := prog_1_method_31_code
def yX_isRoom : MethodName := ⟨"NeverBothDoors", "isRoom", "(I)Z"⟩
abbrev cX_judge : ByteArray := prog_1_method_23_code
def yX_judge : MethodName := ⟨"NeverBothDoors", "judge", "()I"⟩
abbrev cX_kindOf : ByteArray := prog_1_method_37_code
def yX_kindOf : MethodName := ⟨"NeverBothDoors", "kindOf", "(I)I"⟩
abbrev cX_leak : ByteArray := prog_1_method_10_code
def yX_leak : MethodName := ⟨"NeverBothDoors", "leak", "(II)I"⟩
abbrev cX_letter : ByteArray := prog_1_method_2_code
def yX_letter : MethodName := ⟨"NeverBothDoors", "letter", "(I)I"⟩
abbrev cX_lock : ByteArray := prog_1_method_5_code
def yX_lock : MethodName := ⟨"NeverBothDoors", "lock", "(II)I"⟩
abbrev cX_longestWith : ByteArray := prog_1_method_40_code
def yX_longestWith : MethodName := ⟨"NeverBothDoors", "longestWith", "(I)I"⟩
abbrev cX_minutes : ByteArray := prog_1_method_9_code
def yX_minutes : MethodName := ⟨"NeverBothDoors", "minutes", "(I)I"⟩
abbrev cX_more : ByteArray := prog_1_method_17_code
def yX_more : MethodName := ⟨"NeverBothDoors", "more", "(I)I"⟩
abbrev cX_nextSeed : ByteArray := prog_1_method_48_code
def yX_nextSeed : MethodName := ⟨"NeverBothDoors", "nextSeed", "(I)I"⟩
abbrev cX_on : ByteArray := prog_1_method_28_code
def yX_on : MethodName := ⟨"NeverBothDoors", "on", "()I"⟩
abbrev cX_open : ByteArray := prog_1_method_7_code
def yX_open : MethodName := ⟨"NeverBothDoors", "open", "(II)I"⟩
abbrev cX_orNone : ByteArray := prog_1_method_33_code
def yX_orNone : MethodName := ⟨"NeverBothDoors", "orNone", "(I)I"⟩
abbrev cX_out : ByteArray := prog_1_method_13_code
def yX_out : MethodName := ⟨"NeverBothDoors", "out", "()I"⟩
abbrev cX_passBySeeds : ByteArray := prog_1_method_47_code
def yX_passBySeeds : MethodName := ⟨"NeverBothDoors", "passBySeeds", "(II)I"⟩
abbrev cX_passToldInMind : ByteArray := prog_1_method_46_code
def yX_passToldInMind : MethodName := ⟨"NeverBothDoors", "passToldInMind", "()I"⟩
abbrev cX_passes : ByteArray := prog_1_method_8_code
def yX_passes : MethodName := ⟨"NeverBothDoors", "passes", "(II)I"⟩
abbrev cX_person : ByteArray := prog_1_method_6_code
def yX_person : MethodName := ⟨"NeverBothDoors", "person", "(II)I"⟩
abbrev cX_readBurrow : ByteArray := prog_1_method_35_code
def yX_readBurrow : MethodName := ⟨"NeverBothDoors", "readBurrow", "()I"⟩
abbrev cX_refuse : ByteArray := prog_1_method_30_code
def yX_refuse : MethodName := ⟨"NeverBothDoors", "refuse", "(I)I"⟩
abbrev cX_room : ByteArray := prog_1_method_4_code
def yX_room : MethodName := ⟨"NeverBothDoors", "room", "(II)I"⟩
abbrev cX_roomsUnlikeTold : ByteArray := prog_1_method_42_code
def yX_roomsUnlikeTold : MethodName := ⟨"NeverBothDoors", "roomsUnlikeTold", "(I)I"⟩
abbrev cX_row : ByteArray := prog_1_method_21_code
def yX_row : MethodName := ⟨"NeverBothDoors", "row", "(I)I"⟩
abbrev cX_seeds : ByteArray := prog_1_method_26_code
def yX_seeds : MethodName := ⟨"NeverBothDoors", "seeds", "(II)I"⟩
abbrev cX_soonest : ByteArray := prog_1_method_15_code
def yX_soonest : MethodName := ⟨"NeverBothDoors", "soonest", "(I)I"⟩
abbrev cX_sum : ByteArray := prog_1_method_34_code
def yX_sum : MethodName := ⟨"NeverBothDoors", "sum", "([I)I"⟩
abbrev cX_way : ByteArray := prog_1_method_14_code
def yX_way : MethodName := ⟨"NeverBothDoors", "way", "(II)I"⟩
abbrev cX_waysToLeak : ByteArray := prog_1_method_44_code
def yX_waysToLeak : MethodName := ⟨"NeverBothDoors", "waysToLeak", "(I)I"⟩
abbrev cX_wouldMakeAllSo : ByteArray := prog_1_method_43_code
def yX_wouldMakeAllSo : MethodName := ⟨"NeverBothDoors", "wouldMakeAllSo", "(IIII)Z"⟩
abbrev cB_init : ByteArray := prog_2_method_1_code
def yB_init : MethodName := ⟨"NeverBothDoors$Burrow", "<init>", "()V"⟩
abbrev cB_airBehind : ByteArray := prog_2_method_13_code
def yB_airBehind : MethodName := ⟨"NeverBothDoors$Burrow", "airBehind", "(III)I"⟩
abbrev cB_become : ByteArray := prog_2_method_2_code
def yB_become : MethodName := ⟨"NeverBothDoors$Burrow", "become", "(LNeverBothDoors$Burrow;)V"⟩
abbrev cB_breathIn : ByteArray := prog_2_method_12_code
def yB_breathIn : MethodName := ⟨"NeverBothDoors$Burrow", "breathIn", "(I)I"⟩
abbrev cB_breathOf : ByteArray := prog_2_method_11_code
def yB_breathOf : MethodName := ⟨"NeverBothDoors$Burrow", "breathOf", "(I)I"⟩
abbrev cB_canPass : ByteArray := prog_2_method_16_code
def yB_canPass : MethodName := ⟨"NeverBothDoors$Burrow", "canPass", "(II)Z"⟩
abbrev cB_goThrough : ByteArray := prog_2_method_17_code
def yB_goThrough : MethodName := ⟨"NeverBothDoors$Burrow", "goThrough", "(II)V"⟩
abbrev cB_hasLock : ByteArray := prog_2_method_3_code
def yB_hasLock : MethodName := ⟨"NeverBothDoors$Burrow", "hasLock", "(I)Z"⟩
abbrev cB_hasPerson : ByteArray := prog_2_method_4_code
def yB_hasPerson : MethodName := ⟨"NeverBothDoors$Burrow", "hasPerson", "(I)Z"⟩
abbrev cB_leastBare : ByteArray := prog_2_method_18_code
def yB_leastBare : MethodName := ⟨"NeverBothDoors$Burrow", "leastBare", "()I"⟩
abbrev cB_liveMinute : ByteArray := prog_2_method_14_code
def yB_liveMinute : MethodName := ⟨"NeverBothDoors$Burrow", "liveMinute", "()I"⟩
abbrev cB_liveMinutes : ByteArray := prog_2_method_15_code
def yB_liveMinutes : MethodName := ⟨"NeverBothDoors$Burrow", "liveMinutes", "(I)I"⟩
abbrev cB_peopleAt : ByteArray := prog_2_method_10_code
def yB_peopleAt : MethodName := ⟨"NeverBothDoors$Burrow", "peopleAt", "(I)I"⟩
abbrev cB_peopleOfFit : ByteArray := prog_2_method_20_code
def yB_peopleOfFit : MethodName := ⟨"NeverBothDoors$Burrow", "peopleOfFit", "(II)I"⟩
abbrev cB_suitsAreEnoughBut : ByteArray := prog_2_method_19_code
def yB_suitsAreEnoughBut : MethodName := ⟨"NeverBothDoors$Burrow", "suitsAreEnoughBut", "(I)Z"⟩
abbrev cB_tellAir : ByteArray := prog_2_method_5_code
def yB_tellAir : MethodName := ⟨"NeverBothDoors$Burrow", "tellAir", "(II)Z"⟩
abbrev cB_tellLeak : ByteArray := prog_2_method_6_code
def yB_tellLeak : MethodName := ⟨"NeverBothDoors$Burrow", "tellLeak", "(II)Z"⟩
abbrev cB_tellLock : ByteArray := prog_2_method_7_code
def yB_tellLock : MethodName := ⟨"NeverBothDoors$Burrow", "tellLock", "(IIII)Z"⟩
abbrev cB_tellPerson : ByteArray := prog_2_method_8_code
def yB_tellPerson : MethodName := ⟨"NeverBothDoors$Burrow", "tellPerson", "(IIII)Z"⟩
abbrev cB_tellSuits : ByteArray := prog_2_method_9_code
def yB_tellSuits : MethodName := ⟨"NeverBothDoors$Burrow", "tellSuits", "(II)Z"⟩
abbrev cT_init : ByteArray := prog_3_method_1_code
def yT_init : MethodName := ⟨"NeverBothDoors$Text", "<init>", "()V"⟩
abbrev cT_add : ByteArray := prog_3_method_2_code
def yT_add : MethodName := ⟨"NeverBothDoors$Text", "add", "(I)V"⟩
abbrev cT_behindStatement : ByteArray := prog_3_method_7_code
def yT_behindStatement : MethodName := ⟨"NeverBothDoors$Text", "behindStatement", "(I)I"⟩
abbrev cT_digitAt : ByteArray := prog_3_method_4_code
def yT_digitAt : MethodName := ⟨"NeverBothDoors$Text", "digitAt", "(I)I"⟩
abbrev cT_isDue : ByteArray := prog_3_method_9_code
def yT_isDue : MethodName := ⟨"NeverBothDoors$Text", "isDue", "(CI)Z"⟩
abbrev cT_misformedAt : ByteArray := prog_3_method_6_code
def yT_misformedAt : MethodName := ⟨"NeverBothDoors$Text", "misformedAt", "()I"⟩
abbrev cT_numberAt : ByteArray := prog_3_method_5_code
def yT_numberAt : MethodName := ⟨"NeverBothDoors$Text", "numberAt", "(I)I"⟩
abbrev cT_shapeBehind : ByteArray := prog_3_method_8_code
def yT_shapeBehind : MethodName := ⟨"NeverBothDoors$Text", "shapeBehind", "(I)Ljava/lang/String;"⟩
abbrev cT_signAt : ByteArray := prog_3_method_3_code
def yT_signAt : MethodName := ⟨"NeverBothDoors$Text", "signAt", "(I)I"⟩
abbrev cW_init : ByteArray := prog_4_method_1_code
def yW_init : MethodName := ⟨"NeverBothDoors$Ways", "<init>", "()V"⟩
abbrev cW_errandsFrom : ByteArray := prog_4_method_8_code
def yW_errandsFrom : MethodName := ⟨"NeverBothDoors$Ways", "errandsFrom", "(II)I"⟩
abbrev cW_farthestRoom : ByteArray := prog_4_method_6_code
def yW_farthestRoom : MethodName := ⟨"NeverBothDoors$Ways", "farthestRoom", "()I"⟩
abbrev cW_goOnFrom : ByteArray := prog_4_method_9_code
def yW_goOnFrom : MethodName := ⟨"NeverBothDoors$Ways", "goOnFrom", "(III)V"⟩
abbrev cW_join : ByteArray := prog_4_method_3_code
def yW_join : MethodName := ⟨"NeverBothDoors$Ways", "join", "(III)V"⟩
abbrev cW_longestWith : ByteArray := prog_4_method_7_code
def yW_longestWith : MethodName := ⟨"NeverBothDoors$Ways", "longestWith", "(II)I"⟩
abbrev cW_measure : ByteArray := prog_4_method_2_code
def yW_measure : MethodName := ⟨"NeverBothDoors$Ways", "measure", "(LNeverBothDoors$Burrow;)V"⟩
abbrev cW_shortenBy : ByteArray := prog_4_method_4_code
def yW_shortenBy : MethodName := ⟨"NeverBothDoors$Ways", "shortenBy", "(I)V"⟩
abbrev cW_toAnyRoom : ByteArray := prog_4_method_5_code
def yW_toAnyRoom : MethodName := ⟨"NeverBothDoors$Ways", "toAnyRoom", "(I)I"⟩
abbrev cM_init : ByteArray := prog_6_method_1_code
def yM_init : MethodName := ⟨"NeverBothDoorsModel", "<init>", "()V"⟩
abbrev cM_again : ByteArray := prog_6_method_50_code
def yM_again : MethodName := ⟨"NeverBothDoorsModel", "again", "([I)V"⟩
abbrev cM_air : ByteArray := prog_6_method_29_code
def yM_air : MethodName := ⟨"NeverBothDoorsModel", "air", "(II)I"⟩
abbrev cM_bare : ByteArray := prog_6_method_40_code
def yM_bare : MethodName := ⟨"NeverBothDoorsModel", "bare", "()I"⟩
abbrev cM_breath : ByteArray := prog_6_method_17_code
def yM_breath : MethodName := ⟨"NeverBothDoorsModel", "breath", "(I)I"⟩
abbrev cM_breathed : ByteArray := prog_6_method_18_code
def yM_breathed : MethodName := ⟨"NeverBothDoorsModel", "breathed", "(I)I"⟩
abbrev cM_burrow : ByteArray := prog_6_method_15_code
def yM_burrow : MethodName := ⟨"NeverBothDoorsModel", "burrow", "()I"⟩
abbrev cM_canHave : ByteArray := prog_6_method_38_code
def yM_canHave : MethodName := ⟨"NeverBothDoorsModel", "canHave", "(I)Z"⟩
abbrev cM_canPass : ByteArray := prog_6_method_24_code
def yM_canPass : MethodName := ⟨"NeverBothDoorsModel", "canPass", "(II)Z"⟩
abbrev cM_clear : ByteArray := prog_6_method_47_code
def yM_clear : MethodName := ⟨"NeverBothDoorsModel", "clear", "()I"⟩
abbrev cM_count : ByteArray := prog_6_method_53_code
def yM_count : MethodName := ⟨"NeverBothDoorsModel", "count", "(I)I"⟩
abbrev cM_ends : ByteArray := prog_6_method_46_code
def yM_ends : MethodName := ⟨"NeverBothDoorsModel", "ends", "()I"⟩
abbrev cM_errands : ByteArray := prog_6_method_37_code
def yM_errands : MethodName := ⟨"NeverBothDoorsModel", "errands", "(II)I"⟩
abbrev cM_farthest : ByteArray := prog_6_method_35_code
def yM_farthest : MethodName := ⟨"NeverBothDoorsModel", "farthest", "(I)I"⟩
abbrev cM_fitted : ByteArray := prog_6_method_39_code
def yM_fitted : MethodName := ⟨"NeverBothDoorsModel", "fitted", "()I"⟩
abbrev cM_gasps : ByteArray := prog_6_method_30_code
def yM_gasps : MethodName := ⟨"NeverBothDoorsModel", "gasps", "(I)I"⟩
abbrev cM_gauges : ByteArray := prog_6_method_43_code
def yM_gauges : MethodName := ⟨"NeverBothDoorsModel", "gauges", "(II)I"⟩
abbrev cM_goBy : ByteArray := prog_6_method_19_code
def yM_goBy : MethodName := ⟨"NeverBothDoorsModel", "goBy", "(I)I"⟩
abbrev cM_has : ByteArray := prog_6_method_4_code
def yM_has : MethodName := ⟨"NeverBothDoorsModel", "has", "(II)Z"⟩
abbrev cM_image : ByteArray := prog_6_method_51_code
def yM_image : MethodName := ⟨"NeverBothDoorsModel", "image", "()I"⟩
abbrev cM_is : ByteArray := prog_6_method_10_code
def yM_is : MethodName := ⟨"NeverBothDoorsModel", "is", "(I)Z"⟩
abbrev cM_isDigit : ByteArray := prog_6_method_11_code
def yM_isDigit : MethodName := ⟨"NeverBothDoorsModel", "isDigit", "()Z"⟩
abbrev cM_isLock : ByteArray := prog_6_method_7_code
def yM_isLock : MethodName := ⟨"NeverBothDoorsModel", "isLock", "(I)Z"⟩
abbrev cM_isOne : ByteArray := prog_6_method_8_code
def yM_isOne : MethodName := ⟨"NeverBothDoorsModel", "isOne", "(I)Z"⟩
abbrev cM_isPlace : ByteArray := prog_6_method_6_code
def yM_isPlace : MethodName := ⟨"NeverBothDoorsModel", "isPlace", "(I)Z"⟩
abbrev cM_isRoom : ByteArray := prog_6_method_5_code
def yM_isRoom : MethodName := ⟨"NeverBothDoorsModel", "isRoom", "(I)Z"⟩
abbrev cM_isSo : ByteArray := prog_6_method_42_code
def yM_isSo : MethodName := ⟨"NeverBothDoorsModel", "isSo", "(I)Z"⟩
abbrev cM_judge : ByteArray := prog_6_method_45_code
def yM_judge : MethodName := ⟨"NeverBothDoorsModel", "judge", "()I"⟩
abbrev cM_judged : ByteArray := prog_6_method_44_code
def yM_judged : MethodName := ⟨"NeverBothDoorsModel", "judged", "()I"⟩
abbrev cM_keep : ByteArray := prog_6_method_49_code
def yM_keep : MethodName := ⟨"NeverBothDoorsModel", "keep", "([I)V"⟩
abbrev cM_leak : ByteArray := prog_6_method_28_code
def yM_leak : MethodName := ⟨"NeverBothDoorsModel", "leak", "(II)I"⟩
abbrev cM_letter : ByteArray := prog_6_method_9_code
def yM_letter : MethodName := ⟨"NeverBothDoorsModel", "letter", "(I)I"⟩
abbrev cM_lock : ByteArray := prog_6_method_21_code
def yM_lock : MethodName := ⟨"NeverBothDoorsModel", "lock", "(II)I"⟩
abbrev cM_minutes : ByteArray := prog_6_method_27_code
def yM_minutes : MethodName := ⟨"NeverBothDoorsModel", "minutes", "(I)I"⟩
abbrev cM_more : ByteArray := prog_6_method_36_code
def yM_more : MethodName := ⟨"NeverBothDoorsModel", "more", "(I)I"⟩
abbrev cM_newLock : ByteArray := prog_6_method_13_code
def yM_newLock : MethodName := ⟨"NeverBothDoorsModel", "newLock", "(IIII)V"⟩
abbrev cM_no : ByteArray := prog_6_method_2_code
def yM_no : MethodName := ⟨"NeverBothDoorsModel", "no", "(I)I"⟩
abbrev cM_number : ByteArray := prog_6_method_12_code
def yM_number : MethodName := ⟨"NeverBothDoorsModel", "number", "(II)Z"⟩
abbrev cM_on : ByteArray := prog_6_method_52_code
def yM_on : MethodName := ⟨"NeverBothDoorsModel", "on", "()I"⟩
abbrev cM_open : ByteArray := prog_6_method_23_code
def yM_open : MethodName := ⟨"NeverBothDoorsModel", "open", "(II)I"⟩
abbrev cM_out : ByteArray := prog_6_method_31_code
def yM_out : MethodName := ⟨"NeverBothDoorsModel", "out", "()I"⟩
abbrev cM_pass : ByteArray := prog_6_method_25_code
def yM_pass : MethodName := ⟨"NeverBothDoorsModel", "pass", "(II)I"⟩
abbrev cM_passes : ByteArray := prog_6_method_26_code
def yM_passes : MethodName := ⟨"NeverBothDoorsModel", "passes", "(II)I"⟩
abbrev cM_person : ByteArray := prog_6_method_22_code
def yM_person : MethodName := ⟨"NeverBothDoorsModel", "person", "(II)I"⟩
abbrev cM_room : ByteArray := prog_6_method_20_code
def yM_room : MethodName := ⟨"NeverBothDoorsModel", "room", "(II)I"⟩
abbrev cM_row : ByteArray := prog_6_method_41_code
def yM_row : MethodName := ⟨"NeverBothDoorsModel", "row", "(I)I"⟩
abbrev cM_seeds : ByteArray := prog_6_method_48_code
def yM_seeds : MethodName := ⟨"NeverBothDoorsModel", "seeds", "(II)I"⟩
abbrev cM_soonest : ByteArray := prog_6_method_34_code
def yM_soonest : MethodName := ⟨"NeverBothDoorsModel", "soonest", "(I)I"⟩
abbrev cM_statement : ByteArray := prog_6_method_14_code
def yM_statement : MethodName := ⟨"NeverBothDoorsModel", "statement", "(Z)I"⟩
abbrev cM_there : ByteArray := prog_6_method_16_code
def yM_there : MethodName := ⟨"NeverBothDoorsModel", "there", "(I)I"⟩
abbrev cM_walk : ByteArray := prog_6_method_32_code
def yM_walk : MethodName := ⟨"NeverBothDoorsModel", "walk", "(I)V"⟩
abbrev cM_way : ByteArray := prog_6_method_33_code
def yM_way : MethodName := ⟨"NeverBothDoorsModel", "way", "(II)I"⟩
abbrev cM_within : ByteArray := prog_6_method_3_code
def yM_within : MethodName := ⟨"NeverBothDoorsModel", "within", "(III)Z"⟩
abbrev cJC_highSurrogate : ByteArray := prog_7_method_28_code
def yJC_highSurrogate : MethodName := ⟨"java/lang/Character", "highSurrogate", "(I)C"⟩
abbrev cJC_isValidCodePoint : ByteArray := prog_7_method_11_code
def yJC_isValidCodePoint : MethodName := ⟨"java/lang/Character", "isValidCodePoint", "(I)Z"⟩
abbrev cJC_lowSurrogate : ByteArray := prog_7_method_29_code
def yJC_lowSurrogate : MethodName := ⟨"java/lang/Character", "lowSurrogate", "(I)C"⟩
abbrev cJI_bitCount : ByteArray := prog_8_method_49_code
def yJI_bitCount : MethodName := ⟨"java/lang/Integer", "bitCount", "(I)I"⟩
abbrev cJM_max : ByteArray := prog_9_method_65_code
def yJM_max : MethodName := ⟨"java/lang/Math", "max", "(II)I"⟩
abbrev cJM_min : ByteArray := prog_9_method_69_code
def yJM_min : MethodName := ⟨"java/lang/Math", "min", "(II)I"⟩
abbrev cJS_charAt : ByteArray := prog_10_method_56_code
def yJS_charAt : MethodName := ⟨"java/lang/String", "charAt", "(I)C"⟩
abbrev cJS_checkBoundsBeginEnd : ByteArray := prog_10_method_158_code
def yJS_checkBoundsBeginEnd : MethodName := ⟨"java/lang/String", "checkBoundsBeginEnd", "(III)V"⟩
abbrev cJS_checkIndex : ByteArray := prog_10_method_155_code
def yJS_checkIndex : MethodName := ⟨"java/lang/String", "checkIndex", "(II)V"⟩
abbrev cJS_coder : ByteArray := prog_10_method_152_code
def yJS_coder : MethodName := ⟨"java/lang/String", "coder", "()B"⟩
abbrev cJS_indexOf0 : ByteArray := prog_10_method_79_code
def yJS_indexOf0 : MethodName := ⟨"java/lang/String", "indexOf", "(I)I"⟩
abbrev cJS_indexOf1 : ByteArray := prog_10_method_80_code
def yJS_indexOf1 : MethodName := ⟨"java/lang/String", "indexOf", "(II)I"⟩
abbrev cJS_isEmpty : ByteArray := prog_10_method_55_code
def yJS_isEmpty : MethodName := ⟨"java/lang/String", "isEmpty", "()Z"⟩
abbrev cJS_isLatin1 : ByteArray := prog_10_method_154_code
def yJS_isLatin1 : MethodName := ⟨"java/lang/String", "isLatin1", "()Z"⟩
abbrev cJS_length : ByteArray := prog_10_method_54_code
def yJS_length : MethodName := ⟨"java/lang/String", "length", "()I"⟩
abbrev cJL_canEncode : ByteArray := prog_11_method_4_code
def yJL_canEncode : MethodName := ⟨"java/lang/StringLatin1", "canEncode", "(I)Z"⟩
abbrev cJL_charAt : ByteArray := prog_11_method_2_code
def yJL_charAt : MethodName := ⟨"java/lang/StringLatin1", "charAt", "([BI)C"⟩
abbrev cJL_indexOf : ByteArray := prog_11_method_22_code
def yJL_indexOf : MethodName := ⟨"java/lang/StringLatin1", "indexOf", "([BIII)I"⟩
abbrev cJL_indexOfChar : ByteArray := prog_11_method_23_code
def yJL_indexOfChar : MethodName := ⟨"java/lang/StringLatin1", "indexOfChar", "([BIII)I"⟩
abbrev cJU_charAt : ByteArray := prog_12_method_83_code
def yJU_charAt : MethodName := ⟨"java/lang/StringUTF16", "charAt", "([BI)C"⟩
abbrev cJU_checkBoundsBeginEnd : ByteArray := prog_12_method_93_code
def yJU_checkBoundsBeginEnd : MethodName := ⟨"java/lang/StringUTF16", "checkBoundsBeginEnd", "(II[B)V"⟩
abbrev cJU_checkIndex : ByteArray := prog_12_method_91_code
def yJU_checkIndex : MethodName := ⟨"java/lang/StringUTF16", "checkIndex", "(I[B)V"⟩
abbrev cJU_getChar : ByteArray := prog_12_method_5_code
def yJU_getChar : MethodName := ⟨"java/lang/StringUTF16", "getChar", "([BI)C"⟩
abbrev cJU_indexOf : ByteArray := prog_12_method_40_code
def yJU_indexOf : MethodName := ⟨"java/lang/StringUTF16", "indexOf", "([BIII)I"⟩
abbrev cJU_indexOfChar : ByteArray := prog_12_method_47_code
def yJU_indexOfChar : MethodName := ⟨"java/lang/StringUTF16", "indexOfChar", "([BIII)I"⟩
abbrev cJU_indexOfCharUnsafe : ByteArray := prog_12_method_48_code
def yJU_indexOfCharUnsafe : MethodName := ⟨"java/lang/StringUTF16", "indexOfCharUnsafe", "([BIII)I"⟩
abbrev cJU_indexOfSupplementary : ByteArray := prog_12_method_49_code
def yJU_indexOfSupplementary : MethodName := ⟨"java/lang/StringUTF16", "indexOfSupplementary", "([BIII)I"⟩
abbrev cJU_length : ByteArray := prog_12_method_6_code
def yJU_length : MethodName := ⟨"java/lang/StringUTF16", "length", "([B)I"⟩
abbrev cJA_fill : ByteArray := prog_14_method_103_code
def yJA_fill : MethodName := ⟨"java/util/Arrays", "fill", "([II)V"⟩
abbrev cJP_checkFromToIndex : ByteArray := prog_15_method_12_code
def yJP_checkFromToIndex : MethodName := ⟨"jdk/internal/util/Preconditions", "checkFromToIndex", "(IIILjava/util/function/BiFunction;)I"⟩
abbrev cJP_checkIndex : ByteArray := prog_15_method_11_code
def yJP_checkIndex : MethodName := ⟨"jdk/internal/util/Preconditions", "checkIndex", "(IILjava/util/function/BiFunction;)I"⟩
def RR_B : String := "NeverBothDoors$Burrow"
def FF_B : u_T := fun k => match k with
  | 0 => ("NeverBothDoors$Burrow", "air", "[I", true)
  | 1 => ("NeverBothDoors$Burrow", "leak", "[I", true)
  | 2 => ("NeverBothDoors$Burrow", "lesser", "[I", true)
  | 3 => ("NeverBothDoors$Burrow", "other", "[I", true)
  | 4 => ("NeverBothDoors$Burrow", "size", "[I", true)
  | 5 => ("NeverBothDoors$Burrow", "cycle", "[I", true)
  | 6 => ("NeverBothDoors$Burrow", "door", "[I", true)
  | 7 => ("NeverBothDoors$Burrow", "locks", "I", false)
  | 8 => ("NeverBothDoors$Burrow", "kind", "[I", true)
  | 9 => ("NeverBothDoors$Burrow", "place", "[I", true)
  | 10 => ("NeverBothDoors$Burrow", "fit", "[I", true)
  | 11 => ("NeverBothDoors$Burrow", "suit", "[I", true)
  | 12 => ("NeverBothDoors$Burrow", "people", "I", false)
  | 13 => ("NeverBothDoors$Burrow", "suits", "[I", true)
  | 14 => ("NeverBothDoors$Burrow", "minute", "I", false)
  | _ => ("NeverBothDoors$Burrow", "gasped", "I", false)
def tyF_B : Nat → FieldType := fun k => match k with
  | 0 => .array .int
  | 1 => .array .int
  | 2 => .array .int
  | 3 => .array .int
  | 4 => .array .int
  | 5 => .array .int
  | 6 => .array .int
  | 7 => .int
  | 8 => .array .int
  | 9 => .array .int
  | 10 => .array .int
  | 11 => .array .int
  | 12 => .int
  | 13 => .array .int
  | 14 => .int
  | _ => .int
abbrev uwF_B : List Cond := u_ws RR_B FF_B 16
theorem nmF_B : ∀ a, a < 16 → ∀ b, b < 16 → a ≠ b → (FF_B a).2.1 ≠ (FF_B b).2.1 := by decide +kernel
theorem tyF_B_ok : ∀ k, k < 16 → parseFieldDescriptor (FF_B k).2.2.1 = some (tyF_B k) := by decide +kernel
def RR_T : String := "NeverBothDoors$Text"
def FF_T : u_T := fun k => match k with
  | 0 => ("NeverBothDoors$Text", "signs", "[I", true)
  | _ => ("NeverBothDoors$Text", "length", "I", false)
def tyF_T : Nat → FieldType := fun k => match k with
  | 0 => .array .int
  | _ => .int
abbrev uwF_T : List Cond := u_ws RR_T FF_T 2
theorem nmF_T : ∀ a, a < 2 → ∀ b, b < 2 → a ≠ b → (FF_T a).2.1 ≠ (FF_T b).2.1 := by decide +kernel
theorem tyF_T_ok : ∀ k, k < 2 → parseFieldDescriptor (FF_T k).2.2.1 = some (tyF_T k) := by decide +kernel
def RR_W : String := "NeverBothDoors$Ways"
def FF_W : u_T := fun k => match k with
  | 0 => ("NeverBothDoors$Ways", "length", "[[I", true)
  | _ => ("NeverBothDoors$Ways", "errand", "[I", true)
def tyF_W : Nat → FieldType := fun k => match k with
  | 0 => .array (.array .int)
  | _ => .array .int
abbrev uwF_W : List Cond := u_ws RR_W FF_W 2
theorem nmF_W : ∀ a, a < 2 → ∀ b, b < 2 → a ≠ b → (FF_W a).2.1 ≠ (FF_W b).2.1 := by decide +kernel
theorem tyF_W_ok : ∀ k, k < 2 → parseFieldDescriptor (FF_W k).2.2.1 = some (tyF_W k) := by decide +kernel
def RR_X : String := "NeverBothDoors"
def FF_X : u_T := fun k => match k with
  | 0 => ("NeverBothDoors", "now", "LNeverBothDoors$Burrow;", true)
  | 1 => ("NeverBothDoors", "mind", "LNeverBothDoors$Burrow;", true)
  | 2 => ("NeverBothDoors", "kept", "LNeverBothDoors$Burrow;", true)
  | 3 => ("NeverBothDoors", "imageTaken", "Z", false)
  | 4 => ("NeverBothDoors", "text", "LNeverBothDoors$Text;", true)
  | 5 => ("NeverBothDoors", "ways", "LNeverBothDoors$Ways;", true)
  | 6 => ("NeverBothDoors", "told", "[I", true)
  | 7 => ("NeverBothDoors", "toldCount", "I", false)
  | _ => ("NeverBothDoors", "refusals", "[I", true)
def tyF_X : Nat → FieldType := fun k => match k with
  | 0 => .object "NeverBothDoors$Burrow"
  | 1 => .object "NeverBothDoors$Burrow"
  | 2 => .object "NeverBothDoors$Burrow"
  | 3 => .boolean
  | 4 => .object "NeverBothDoors$Text"
  | 5 => .object "NeverBothDoors$Ways"
  | 6 => .array .int
  | 7 => .int
  | _ => .array .int
abbrev uwF_X : List Cond := u_ws RR_X FF_X 9
theorem nmF_X : ∀ a, a < 9 → ∀ b, b < 9 → a ≠ b → (FF_X a).2.1 ≠ (FF_X b).2.1 := by decide +kernel
theorem tyF_X_ok : ∀ k, k < 9 → parseFieldDescriptor (FF_X k).2.2.1 = some (tyF_X k) := by decide +kernel
def RR_M : String := "NeverBothDoorsModel"
def FF_M : u_T := fun k => match k with
  | 0 => ("NeverBothDoorsModel", "air", "[I", true)
  | 1 => ("NeverBothDoorsModel", "leak", "[I", true)
  | 2 => ("NeverBothDoorsModel", "locks", "I", false)
  | 3 => ("NeverBothDoorsModel", "one", "[I", true)
  | 4 => ("NeverBothDoorsModel", "two", "[I", true)
  | 5 => ("NeverBothDoorsModel", "size", "[I", true)
  | 6 => ("NeverBothDoorsModel", "cycle", "[I", true)
  | 7 => ("NeverBothDoorsModel", "doors", "[I", true)
  | 8 => ("NeverBothDoorsModel", "people", "I", false)
  | 9 => ("NeverBothDoorsModel", "kind", "[I", true)
  | 10 => ("NeverBothDoorsModel", "place", "[I", true)
  | 11 => ("NeverBothDoorsModel", "fit", "[I", true)
  | 12 => ("NeverBothDoorsModel", "suit", "[I", true)
  | 13 => ("NeverBothDoorsModel", "minute", "I", false)
  | 14 => ("NeverBothDoorsModel", "suits", "[I", true)
  | 15 => ("NeverBothDoorsModel", "gasped", "I", false)
  | 16 => ("NeverBothDoorsModel", "letters", "I", false)
  | 17 => ("NeverBothDoorsModel", "letter", "[I", true)
  | 18 => ("NeverBothDoorsModel", "at", "I", false)
  | 19 => ("NeverBothDoorsModel", "value", "[I", true)
  | 20 => ("NeverBothDoorsModel", "inRow", "I", false)
  | 21 => ("NeverBothDoorsModel", "row", "[I", true)
  | 22 => ("NeverBothDoorsModel", "refusals", "[I", true)
  | 23 => ("NeverBothDoorsModel", "imaged", "Z", false)
  | 24 => ("NeverBothDoorsModel", "image", "[I", true)
  | 25 => ("NeverBothDoorsModel", "ahead", "[I", true)
  | 26 => ("NeverBothDoorsModel", "ways", "[I", true)
  | 27 => ("NeverBothDoorsModel", "least", "[I", true)
  | _ => ("NeverBothDoorsModel", "left", "[I", true)
def tyF_M : Nat → FieldType := fun k => match k with
  | 0 => .array .int
  | 1 => .array .int
  | 2 => .int
  | 3 => .array .int
  | 4 => .array .int
  | 5 => .array .int
  | 6 => .array .int
  | 7 => .array .int
  | 8 => .int
  | 9 => .array .int
  | 10 => .array .int
  | 11 => .array .int
  | 12 => .array .int
  | 13 => .int
  | 14 => .array .int
  | 15 => .int
  | 16 => .int
  | 17 => .array .int
  | 18 => .int
  | 19 => .array .int
  | 20 => .int
  | 21 => .array .int
  | 22 => .array .int
  | 23 => .boolean
  | 24 => .array .int
  | 25 => .array .int
  | 26 => .array .int
  | 27 => .array .int
  | _ => .array .int
abbrev uwF_M : List Cond := u_ws RR_M FF_M 29
theorem nmF_M : ∀ a, a < 29 → ∀ b, b < 29 → a ≠ b → (FF_M a).2.1 ≠ (FF_M b).2.1 := by decide +kernel
theorem tyF_M_ok : ∀ k, k < 29 → parseFieldDescriptor (FF_M k).2.2.1 = some (tyF_M k) := by decide +kernel
abbrev classes : List vw_C := [(RR_B, FF_B, 16), (RR_T, FF_T, 2), (RR_W, FF_W, 2), (RR_X, FF_X, 9), (RR_M, FF_M, 29)]
set_option maxRecDepth 20000 in
theorem uu_B : ∀ w ∈ uwF_B, w ∈ UW := fun w h => List.mem_filter.mpr ⟨(by decide +kernel : ∀ w ∈ uwF_B, w ∈ lw_tbl) w h, List.all_eq_true.mp (by decide +kernel : uwF_B.all goodWord = true) w h⟩
set_option maxRecDepth 20000 in
theorem uu_T : ∀ w ∈ uwF_T, w ∈ UW := fun w h => List.mem_filter.mpr ⟨(by decide +kernel : ∀ w ∈ uwF_T, w ∈ lw_tbl) w h, List.all_eq_true.mp (by decide +kernel : uwF_T.all goodWord = true) w h⟩
set_option maxRecDepth 20000 in
theorem uu_W : ∀ w ∈ uwF_W, w ∈ UW := fun w h => List.mem_filter.mpr ⟨(by decide +kernel : ∀ w ∈ uwF_W, w ∈ lw_tbl) w h, List.all_eq_true.mp (by decide +kernel : uwF_W.all goodWord = true) w h⟩
set_option maxRecDepth 20000 in
theorem uu_X : ∀ w ∈ uwF_X, w ∈ UW := fun w h => List.mem_filter.mpr ⟨(by decide +kernel : ∀ w ∈ uwF_X, w ∈ lw_tbl) w h, List.all_eq_true.mp (by decide +kernel : uwF_X.all goodWord = true) w h⟩
set_option maxRecDepth 20000 in
theorem uu_M : ∀ w ∈ uwF_M, w ∈ UW := fun w h => List.mem_filter.mpr ⟨(by decide +kernel : ∀ w ∈ uwF_M, w ∈ lw_tbl) w h, List.all_eq_true.mp (by decide +kernel : uwF_M.all goodWord = true) w h⟩

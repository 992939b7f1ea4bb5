section
-- ===== PART A: goes FIRST, ahead of the names: the tables' words, and 'selects' of the private methods out of them =====
/-- a private method of a class that the tables say can be made, by its rows of tables_1 -/
def lw_okq (q : MethodName × Nat) : Prop := (q.1.cls ≠ "java/lang/invoke/MethodHandle" ∧ q.1.cls ≠ "java/lang/invoke/VarHandle") ∧ Cond.instantiable q.1.cls q.2 ∈ tables_1 ∧ Cond.privateMethod q.1 ∈ tables_1 ∧ Cond.instanceMethod q.1 ∈ tables_1
theorem lw_p0 : lw_okq (⟨"NeverBothDoors", "refuse", "(I)I"⟩, 9) := ⟨⟨by decide +kernel, by decide +kernel⟩, List.mem_of_getElem? (i := 16) (by decide +kernel), List.mem_of_getElem? (i := 164) (by decide +kernel), List.mem_of_getElem? (i := 165) (by decide +kernel)⟩
theorem lw_p1 : lw_okq (⟨"NeverBothDoors", "readBurrow", "()I"⟩, 9) := ⟨⟨by decide +kernel, by decide +kernel⟩, List.mem_of_getElem? (i := 16) (by decide +kernel), List.mem_of_getElem? (i := 176) (by decide +kernel), List.mem_of_getElem? (i := 177) (by decide +kernel)⟩
theorem lw_p2 : lw_okq (⟨"NeverBothDoors$Text", "isDue", "(CI)Z"⟩, 2) := ⟨⟨by decide +kernel, by decide +kernel⟩, List.mem_of_getElem? (i := 102) (by decide +kernel), List.mem_of_getElem? (i := 252) (by decide +kernel), List.mem_of_getElem? (i := 253) (by decide +kernel)⟩
theorem lw_p3 : lw_okq (⟨"NeverBothDoors", "comesToMind", "(I)Z"⟩, 9) := ⟨⟨by decide +kernel, by decide +kernel⟩, List.mem_of_getElem? (i := 16) (by decide +kernel), List.mem_of_getElem? (i := 270) (by decide +kernel), List.mem_of_getElem? (i := 271) (by decide +kernel)⟩
theorem lw_p4 : lw_okq (⟨"NeverBothDoors$Ways", "join", "(III)V"⟩, 2) := ⟨⟨by decide +kernel, by decide +kernel⟩, List.mem_of_getElem? (i := 116) (by decide +kernel), List.mem_of_getElem? (i := 416) (by decide +kernel), List.mem_of_getElem? (i := 417) (by decide +kernel)⟩
theorem lw_p5 : lw_okq (⟨"NeverBothDoors$Ways", "shortenBy", "(I)V"⟩, 2) := ⟨⟨by decide +kernel, by decide +kernel⟩, List.mem_of_getElem? (i := 116) (by decide +kernel), List.mem_of_getElem? (i := 422) (by decide +kernel), List.mem_of_getElem? (i := 423) (by decide +kernel)⟩
theorem lw_p6 : lw_okq (⟨"NeverBothDoors", "bestNewLock", "()I"⟩, 9) := ⟨⟨by decide +kernel, by decide +kernel⟩, List.mem_of_getElem? (i := 16) (by decide +kernel), List.mem_of_getElem? (i := 450) (by decide +kernel), List.mem_of_getElem? (i := 451) (by decide +kernel)⟩
theorem lw_p7 : lw_okq (⟨"NeverBothDoors", "longestWith", "(I)I"⟩, 9) := ⟨⟨by decide +kernel, by decide +kernel⟩, List.mem_of_getElem? (i := 16) (by decide +kernel), List.mem_of_getElem? (i := 454) (by decide +kernel), List.mem_of_getElem? (i := 455) (by decide +kernel)⟩
theorem lw_p8 : lw_okq (⟨"NeverBothDoors$Ways", "goOnFrom", "(III)V"⟩, 2) := ⟨⟨by decide +kernel, by decide +kernel⟩, List.mem_of_getElem? (i := 116) (by decide +kernel), List.mem_of_getElem? (i := 472) (by decide +kernel), List.mem_of_getElem? (i := 473) (by decide +kernel)⟩
theorem lw_p9 : lw_okq (⟨"NeverBothDoors", "waysToLeak", "(I)I"⟩, 9) := ⟨⟨by decide +kernel, by decide +kernel⟩, List.mem_of_getElem? (i := 16) (by decide +kernel), List.mem_of_getElem? (i := 511) (by decide +kernel), List.mem_of_getElem? (i := 512) (by decide +kernel)⟩
theorem lw_p10 : lw_okq (⟨"NeverBothDoors", "roomsUnlikeTold", "(I)I"⟩, 9) := ⟨⟨by decide +kernel, by decide +kernel⟩, List.mem_of_getElem? (i := 16) (by decide +kernel), List.mem_of_getElem? (i := 515) (by decide +kernel), List.mem_of_getElem? (i := 516) (by decide +kernel)⟩
theorem lw_p11 : lw_okq (⟨"NeverBothDoors", "isAsTold", "(III)Z"⟩, 9) := ⟨⟨by decide +kernel, by decide +kernel⟩, List.mem_of_getElem? (i := 16) (by decide +kernel), List.mem_of_getElem? (i := 519) (by decide +kernel), List.mem_of_getElem? (i := 520) (by decide +kernel)⟩
theorem lw_p12 : lw_okq (⟨"NeverBothDoors", "wouldMakeAllSo", "(IIII)Z"⟩, 9) := ⟨⟨by decide +kernel, by decide +kernel⟩, List.mem_of_getElem? (i := 16) (by decide +kernel), List.mem_of_getElem? (i := 523) (by decide +kernel), List.mem_of_getElem? (i := 524) (by decide +kernel)⟩
theorem lw_p13 : lw_okq (⟨"NeverBothDoors", "firstToLeak", "(I)I"⟩, 9) := ⟨⟨by decide +kernel, by decide +kernel⟩, List.mem_of_getElem? (i := 16) (by decide +kernel), List.mem_of_getElem? (i := 527) (by decide +kernel), List.mem_of_getElem? (i := 528) (by decide +kernel)⟩
theorem lw_p14 : lw_okq (⟨"NeverBothDoors", "passToldInMind", "()I"⟩, 9) := ⟨⟨by decide +kernel, by decide +kernel⟩, List.mem_of_getElem? (i := 16) (by decide +kernel), List.mem_of_getElem? (i := 535) (by decide +kernel), List.mem_of_getElem? (i := 536) (by decide +kernel)⟩
theorem lw_p15 : lw_okq (⟨"NeverBothDoors", "passBySeeds", "(II)I"⟩, 9) := ⟨⟨by decide +kernel, by decide +kernel⟩, List.mem_of_getElem? (i := 16) (by decide +kernel), List.mem_of_getElem? (i := 551) (by decide +kernel), List.mem_of_getElem? (i := 552) (by decide +kernel)⟩
def lw_privs_1 : List (MethodName × Nat) := [(⟨"NeverBothDoors", "refuse", "(I)I"⟩, 9), (⟨"NeverBothDoors", "readBurrow", "()I"⟩, 9), (⟨"NeverBothDoors$Text", "isDue", "(CI)Z"⟩, 2), (⟨"NeverBothDoors", "comesToMind", "(I)Z"⟩, 9), (⟨"NeverBothDoors$Ways", "join", "(III)V"⟩, 2), (⟨"NeverBothDoors$Ways", "shortenBy", "(I)V"⟩, 2), (⟨"NeverBothDoors", "bestNewLock", "()I"⟩, 9), (⟨"NeverBothDoors", "longestWith", "(I)I"⟩, 9), (⟨"NeverBothDoors$Ways", "goOnFrom", "(III)V"⟩, 2), (⟨"NeverBothDoors", "waysToLeak", "(I)I"⟩, 9), (⟨"NeverBothDoors", "roomsUnlikeTold", "(I)I"⟩, 9), (⟨"NeverBothDoors", "isAsTold", "(III)Z"⟩, 9), (⟨"NeverBothDoors", "wouldMakeAllSo", "(IIII)Z"⟩, 9), (⟨"NeverBothDoors", "firstToLeak", "(I)I"⟩, 9), (⟨"NeverBothDoors", "passToldInMind", "()I"⟩, 9), (⟨"NeverBothDoors", "passBySeeds", "(II)I"⟩, 9)]
theorem lw_r1 : ∀ q ∈ lw_privs_1, lw_okq q := List.forall_mem_cons.mpr ⟨lw_p0, List.forall_mem_cons.mpr ⟨lw_p1, List.forall_mem_cons.mpr ⟨lw_p2, List.forall_mem_cons.mpr ⟨lw_p3, List.forall_mem_cons.mpr ⟨lw_p4, List.forall_mem_cons.mpr ⟨lw_p5, List.forall_mem_cons.mpr ⟨lw_p6, List.forall_mem_cons.mpr ⟨lw_p7, List.forall_mem_cons.mpr ⟨lw_p8, List.forall_mem_cons.mpr ⟨lw_p9, List.forall_mem_cons.mpr ⟨lw_p10, List.forall_mem_cons.mpr ⟨lw_p11, List.forall_mem_cons.mpr ⟨lw_p12, List.forall_mem_cons.mpr ⟨lw_p13, List.forall_mem_cons.mpr ⟨lw_p14, List.forall_mem_cons.mpr ⟨lw_p15, fun _ h => absurd h List.not_mem_nil⟩⟩⟩⟩⟩⟩⟩⟩⟩⟩⟩⟩⟩⟩⟩⟩
theorem lw_p16 : lw_okq (⟨"NeverBothDoorsModel", "no", "(I)I"⟩, 29) := ⟨⟨by decide +kernel, by decide +kernel⟩, List.mem_of_getElem? (i := 579) (by decide +kernel), List.mem_of_getElem? (i := 677) (by decide +kernel), List.mem_of_getElem? (i := 678) (by decide +kernel)⟩
theorem lw_p17 : lw_okq (⟨"NeverBothDoorsModel", "statement", "(Z)I"⟩, 29) := ⟨⟨by decide +kernel, by decide +kernel⟩, List.mem_of_getElem? (i := 579) (by decide +kernel), List.mem_of_getElem? (i := 685) (by decide +kernel), List.mem_of_getElem? (i := 686) (by decide +kernel)⟩
theorem lw_p18 : lw_okq (⟨"NeverBothDoorsModel", "is", "(I)Z"⟩, 29) := ⟨⟨by decide +kernel, by decide +kernel⟩, List.mem_of_getElem? (i := 579) (by decide +kernel), List.mem_of_getElem? (i := 689) (by decide +kernel), List.mem_of_getElem? (i := 690) (by decide +kernel)⟩
theorem lw_p19 : lw_okq (⟨"NeverBothDoorsModel", "number", "(II)Z"⟩, 29) := ⟨⟨by decide +kernel, by decide +kernel⟩, List.mem_of_getElem? (i := 579) (by decide +kernel), List.mem_of_getElem? (i := 693) (by decide +kernel), List.mem_of_getElem? (i := 694) (by decide +kernel)⟩
theorem lw_p20 : lw_okq (⟨"NeverBothDoorsModel", "isDigit", "()Z"⟩, 29) := ⟨⟨by decide +kernel, by decide +kernel⟩, List.mem_of_getElem? (i := 579) (by decide +kernel), List.mem_of_getElem? (i := 697) (by decide +kernel), List.mem_of_getElem? (i := 698) (by decide +kernel)⟩
theorem lw_p21 : lw_okq (⟨"NeverBothDoorsModel", "newLock", "(IIII)V"⟩, 29) := ⟨⟨by decide +kernel, by decide +kernel⟩, List.mem_of_getElem? (i := 579) (by decide +kernel), List.mem_of_getElem? (i := 701) (by decide +kernel), List.mem_of_getElem? (i := 702) (by decide +kernel)⟩
theorem lw_p22 : lw_okq (⟨"NeverBothDoorsModel", "keep", "([I)V"⟩, 29) := ⟨⟨by decide +kernel, by decide +kernel⟩, List.mem_of_getElem? (i := 579) (by decide +kernel), List.mem_of_getElem? (i := 766) (by decide +kernel), List.mem_of_getElem? (i := 767) (by decide +kernel)⟩
theorem lw_p23 : lw_okq (⟨"NeverBothDoorsModel", "again", "([I)V"⟩, 29) := ⟨⟨by decide +kernel, by decide +kernel⟩, List.mem_of_getElem? (i := 579) (by decide +kernel), List.mem_of_getElem? (i := 770) (by decide +kernel), List.mem_of_getElem? (i := 771) (by decide +kernel)⟩
theorem lw_p24 : lw_okq (⟨"NeverBothDoorsModel", "there", "(I)I"⟩, 29) := ⟨⟨by decide +kernel, by decide +kernel⟩, List.mem_of_getElem? (i := 579) (by decide +kernel), List.mem_of_getElem? (i := 781) (by decide +kernel), List.mem_of_getElem? (i := 782) (by decide +kernel)⟩
theorem lw_p25 : lw_okq (⟨"NeverBothDoorsModel", "breathed", "(I)I"⟩, 29) := ⟨⟨by decide +kernel, by decide +kernel⟩, List.mem_of_getElem? (i := 579) (by decide +kernel), List.mem_of_getElem? (i := 785) (by decide +kernel), List.mem_of_getElem? (i := 786) (by decide +kernel)⟩
theorem lw_p26 : lw_okq (⟨"NeverBothDoorsModel", "breath", "(I)I"⟩, 29) := ⟨⟨by decide +kernel, by decide +kernel⟩, List.mem_of_getElem? (i := 579) (by decide +kernel), List.mem_of_getElem? (i := 789) (by decide +kernel), List.mem_of_getElem? (i := 790) (by decide +kernel)⟩
theorem lw_p27 : lw_okq (⟨"NeverBothDoorsModel", "isLock", "(I)Z"⟩, 29) := ⟨⟨by decide +kernel, by decide +kernel⟩, List.mem_of_getElem? (i := 579) (by decide +kernel), List.mem_of_getElem? (i := 797) (by decide +kernel), List.mem_of_getElem? (i := 798) (by decide +kernel)⟩
theorem lw_p28 : lw_okq (⟨"NeverBothDoorsModel", "isOne", "(I)Z"⟩, 29) := ⟨⟨by decide +kernel, by decide +kernel⟩, List.mem_of_getElem? (i := 579) (by decide +kernel), List.mem_of_getElem? (i := 805) (by decide +kernel), List.mem_of_getElem? (i := 806) (by decide +kernel)⟩
theorem lw_p29 : lw_okq (⟨"NeverBothDoorsModel", "canPass", "(II)Z"⟩, 29) := ⟨⟨by decide +kernel, by decide +kernel⟩, List.mem_of_getElem? (i := 579) (by decide +kernel), List.mem_of_getElem? (i := 817) (by decide +kernel), List.mem_of_getElem? (i := 818) (by decide +kernel)⟩
theorem lw_p30 : lw_okq (⟨"NeverBothDoorsModel", "pass", "(II)I"⟩, 29) := ⟨⟨by decide +kernel, by decide +kernel⟩, List.mem_of_getElem? (i := 579) (by decide +kernel), List.mem_of_getElem? (i := 821) (by decide +kernel), List.mem_of_getElem? (i := 822) (by decide +kernel)⟩
theorem lw_p31 : lw_okq (⟨"NeverBothDoorsModel", "goBy", "(I)I"⟩, 29) := ⟨⟨by decide +kernel, by decide +kernel⟩, List.mem_of_getElem? (i := 579) (by decide +kernel), List.mem_of_getElem? (i := 825) (by decide +kernel), List.mem_of_getElem? (i := 826) (by decide +kernel)⟩
def lw_privs_2 : List (MethodName × Nat) := [(⟨"NeverBothDoorsModel", "no", "(I)I"⟩, 29), (⟨"NeverBothDoorsModel", "statement", "(Z)I"⟩, 29), (⟨"NeverBothDoorsModel", "is", "(I)Z"⟩, 29), (⟨"NeverBothDoorsModel", "number", "(II)Z"⟩, 29), (⟨"NeverBothDoorsModel", "isDigit", "()Z"⟩, 29), (⟨"NeverBothDoorsModel", "newLock", "(IIII)V"⟩, 29), (⟨"NeverBothDoorsModel", "keep", "([I)V"⟩, 29), (⟨"NeverBothDoorsModel", "again", "([I)V"⟩, 29), (⟨"NeverBothDoorsModel", "there", "(I)I"⟩, 29), (⟨"NeverBothDoorsModel", "breathed", "(I)I"⟩, 29), (⟨"NeverBothDoorsModel", "breath", "(I)I"⟩, 29), (⟨"NeverBothDoorsModel", "isLock", "(I)Z"⟩, 29), (⟨"NeverBothDoorsModel", "isOne", "(I)Z"⟩, 29), (⟨"NeverBothDoorsModel", "canPass", "(II)Z"⟩, 29), (⟨"NeverBothDoorsModel", "pass", "(II)I"⟩, 29), (⟨"NeverBothDoorsModel", "goBy", "(I)I"⟩, 29)]
theorem lw_r2 : ∀ q ∈ lw_privs_2, lw_okq q := List.forall_mem_cons.mpr ⟨lw_p16, List.forall_mem_cons.mpr ⟨lw_p17, List.forall_mem_cons.mpr ⟨lw_p18, List.forall_mem_cons.mpr ⟨lw_p19, List.forall_mem_cons.mpr ⟨lw_p20, List.forall_mem_cons.mpr ⟨lw_p21, List.forall_mem_cons.mpr ⟨lw_p22, List.forall_mem_cons.mpr ⟨lw_p23, List.forall_mem_cons.mpr ⟨lw_p24, List.forall_mem_cons.mpr ⟨lw_p25, List.forall_mem_cons.mpr ⟨lw_p26, List.forall_mem_cons.mpr ⟨lw_p27, List.forall_mem_cons.mpr ⟨lw_p28, List.forall_mem_cons.mpr ⟨lw_p29, List.forall_mem_cons.mpr ⟨lw_p30, List.forall_mem_cons.mpr ⟨lw_p31, fun _ h => absurd h List.not_mem_nil⟩⟩⟩⟩⟩⟩⟩⟩⟩⟩⟩⟩⟩⟩⟩⟩
theorem lw_p32 : lw_okq (⟨"NeverBothDoorsModel", "walk", "(I)V"⟩, 29) := ⟨⟨by decide +kernel, by decide +kernel⟩, List.mem_of_getElem? (i := 579) (by decide +kernel), List.mem_of_getElem? (i := 856) (by decide +kernel), List.mem_of_getElem? (i := 857) (by decide +kernel)⟩
theorem lw_p33 : lw_okq (⟨"NeverBothDoorsModel", "canHave", "(I)Z"⟩, 29) := ⟨⟨by decide +kernel, by decide +kernel⟩, List.mem_of_getElem? (i := 579) (by decide +kernel), List.mem_of_getElem? (i := 888) (by decide +kernel), List.mem_of_getElem? (i := 889) (by decide +kernel)⟩
theorem lw_p34 : lw_okq (⟨"NeverBothDoorsModel", "isSo", "(I)Z"⟩, 29) := ⟨⟨by decide +kernel, by decide +kernel⟩, List.mem_of_getElem? (i := 579) (by decide +kernel), List.mem_of_getElem? (i := 901) (by decide +kernel), List.mem_of_getElem? (i := 902) (by decide +kernel)⟩
theorem lw_p35 : lw_okq (⟨"NeverBothDoorsModel", "judged", "()I"⟩, 29) := ⟨⟨by decide +kernel, by decide +kernel⟩, List.mem_of_getElem? (i := 579) (by decide +kernel), List.mem_of_getElem? (i := 909) (by decide +kernel), List.mem_of_getElem? (i := 910) (by decide +kernel)⟩
def lw_privs_3 : List (MethodName × Nat) := [(⟨"NeverBothDoorsModel", "walk", "(I)V"⟩, 29), (⟨"NeverBothDoorsModel", "canHave", "(I)Z"⟩, 29), (⟨"NeverBothDoorsModel", "isSo", "(I)Z"⟩, 29), (⟨"NeverBothDoorsModel", "judged", "()I"⟩, 29)]
theorem lw_r3 : ∀ q ∈ lw_privs_3, lw_okq q := List.forall_mem_cons.mpr ⟨lw_p32, List.forall_mem_cons.mpr ⟨lw_p33, List.forall_mem_cons.mpr ⟨lw_p34, List.forall_mem_cons.mpr ⟨lw_p35, fun _ h => absurd h List.not_mem_nil⟩⟩⟩⟩
def lw_privs : List (MethodName × Nat) := lw_privs_1 ++ (lw_privs_2 ++ (lw_privs_3))
def lw_tbl : List Cond := k2_sels lw_privs ++ tables_1
theorem lw_privs_ok : ∀ q ∈ lw_privs, lw_okq q := by
  show ∀ q ∈ lw_privs_1 ++ (lw_privs_2 ++ (lw_privs_3)), lw_okq q
  exact List.forall_mem_append.mpr ⟨lw_r1, List.forall_mem_append.mpr ⟨lw_r2, lw_r3⟩⟩
/-! the words of the tables that hold on, all of them: each contract speaks over these -/
def UW : List Cond := lw_tbl.filter goodWord
theorem uw_in {w : Cond} (i : Nat) (h : lw_tbl[i]? = some w) (g : goodWord w = true) : w ∈ UW := List.mem_filter.mpr ⟨List.mem_of_getElem? h, g⟩
theorem uw_good : ∀ w ∈ UW, (w.onTables && w.keeps) = true ∨ ∃ ty, w = .arrayClass ty := fun w h => good_of_word (List.mem_filter.mp h).2
theorem uw_goodIn (a b : Cond) (h : b ∈ UW) : GoodIn (a :: UW) (b :: UW) := fun w hw => by
  rcases List.mem_cons.mp hw with rfl | hw
  · exact ⟨List.mem_cons_of_mem _ h, uw_good _ h⟩
  · exact ⟨List.mem_cons_of_mem _ hw, uw_good _ hw⟩
theorem uw_goodL (b : Cond) (h : b ∈ UW) : GoodIn UW (b :: UW) := fun w hw => by
  rcases List.mem_cons.mp hw with rfl | hw
  · exact ⟨h, uw_good _ h⟩
  · exact ⟨hw, uw_good _ hw⟩
abbrev cX_init : ByteArray := prog_1_method_1_code
def yX_init : MethodName := ⟨"NeverBothDoors", "<init>", "()V"⟩
abbrev cX_air : ByteArray := prog_1_method_11_code
def yX_air : MethodName := ⟨"NeverBothDoors", "air", "(II)I"⟩
abbrev cX_bare : ByteArray := prog_1_method_20_code
def yX_bare : MethodName := ⟨"NeverBothDoors", "bare", "()I"⟩
abbrev cX_bestNewLock : ByteArray := prog_1_method_39_code
def yX_bestNewLock : MethodName := ⟨"NeverBothDoors", "bestNewLock", "()I"⟩
abbrev cX_breathOfKind : ByteArray := prog_1_method_38_code
def yX_breathOfKind : MethodName := ⟨"NeverBothDoors", "breathOfKind", "(IZ)I"⟩
abbrev cX_burrow : ByteArray := prog_1_method_3_code
def yX_burrow : MethodName := ⟨"NeverBothDoors", "burrow", "()I"⟩
abbrev cX_clear : ByteArray := prog_1_method_25_code
def yX_clear : MethodName := ⟨"NeverBothDoors", "clear", "()I"⟩
abbrev cX_comesToMind : ByteArray := prog_1_method_36_code
def yX_comesToMind : MethodName := ⟨"NeverBothDoors", "comesToMind", "(I)Z"⟩
abbrev cX_count : ByteArray := prog_1_method_29_code
def yX_count : MethodName := ⟨"NeverBothDoors", "count", "(I)I"⟩
abbrev cX_drawn : ByteArray := prog_1_method_49_code
def yX_drawn : MethodName := ⟨"NeverBothDoors", "drawn", "(II)I"⟩
abbrev cX_ends : ByteArray := prog_1_method_24_code
def yX_ends : MethodName := ⟨"NeverBothDoors", "ends", "()I"⟩
abbrev cX_errands : ByteArray := prog_1_method_18_code
def yX_errands : MethodName := ⟨"NeverBothDoors", "errands", "(II)I"⟩
abbrev cX_farthest : ByteArray := prog_1_method_16_code
def yX_farthest : MethodName := ⟨"NeverBothDoors", "farthest", "(I)I"⟩
abbrev cX_firstToLeak : ByteArray := prog_1_method_45_code
def yX_firstToLeak : MethodName := ⟨"NeverBothDoors", "firstToLeak", "(I)I"⟩
abbrev cX_fitted : ByteArray := prog_1_method_19_code
def yX_fitted : MethodName := ⟨"NeverBothDoors", "fitted", "()I"⟩
abbrev cX_gasps : ByteArray := prog_1_method_12_code
def yX_gasps : MethodName := ⟨"NeverBothDoors", "gasps", "(I)I"⟩
abbrev cX_gauges : ByteArray := prog_1_method_22_code
def yX_gauges : MethodName := ⟨"NeverBothDoors", "gauges", "(II)I"⟩
abbrev cX_image : ByteArray := prog_1_method_27_code
def yX_image : MethodName := ⟨"NeverBothDoors", "image", "()I"⟩
abbrev cX_isAsTold : ByteArray := prog_1_method_41_code
def yX_isAsTold : MethodName := ⟨"NeverBothDoors", "isAsTold", "(III)Z"⟩
abbrev cX_isPlace : ByteArray := prog_1_method_32_code
def yX_isPlace : MethodName := ⟨"NeverBothDoors", "isPlace", "(I)Z"⟩
abbrev cX_isRoom : ByteArray := prog_1_method_31_code
def yX_isRoom : MethodName := ⟨"NeverBothDoors", "isRoom", "(I)Z"⟩
abbrev cX_judge : ByteArray := prog_1_method_23_code
def yX_judge : MethodName := ⟨"NeverBothDoors", "judge", "()I"⟩
abbrev cX_kindOf : ByteArray := prog_1_method_37_code
def yX_kindOf : MethodName := ⟨"NeverBothDoors", "kindOf", "(I)I"⟩
abbrev cX_leak : ByteArray := prog_1_method_10_code
def yX_leak : MethodName := ⟨"NeverBothDoors", "leak", "(II)I"⟩
abbrev cX_letter : ByteArray := prog_1_method_2_code
def yX_letter : MethodName := ⟨"NeverBothDoors", "letter", "(I)I"⟩
abbrev cX_lock : ByteArray := prog_1_method_5_code
def yX_lock : MethodName := ⟨"NeverBothDoors", "lock", "(II)I"⟩
abbrev cX_longestWith : ByteArray := prog_1_method_40_code
def yX_longestWith : MethodName := ⟨"NeverBothDoors", "longestWith", "(I)I"⟩
abbrev cX_minutes : ByteArray := prog_1_method_9_code
def yX_minutes : MethodName := ⟨"NeverBothDoors", "minutes", "(I)I"⟩
abbrev cX_more : ByteArray := prog_1_method_17_code
def yX_more : MethodName := ⟨"NeverBothDoors", "more", "(I)I"⟩
abbrev cX_nextSeed : ByteArray := prog_1_method_48_code
def yX_nextSeed : MethodName := ⟨"NeverBothDoors", "nextSeed", "(I)I"⟩
abbrev cX_on : ByteArray := prog_1_method_28_code
def yX_on : MethodName := ⟨"NeverBothDoors", "on", "()I"⟩
abbrev cX_open : ByteArray := prog_1_method_7_code
def yX_open : MethodName := ⟨"NeverBothDoors", "open", "(II)I"⟩
abbrev cX_orNone : ByteArray := prog_1_method_33_code
def yX_orNone : MethodName := ⟨"NeverBothDoors", "orNone", "(I)I"⟩
abbrev cX_out : ByteArray := prog_1_method_13_code
def yX_out : MethodName := ⟨"NeverBothDoors", "out", "()I"⟩
abbrev cX_passBySeeds : ByteArray := prog_1_method_47_code
def yX_passBySeeds : MethodName := ⟨"NeverBothDoors", "passBySeeds", "(II)I"⟩
abbrev cX_passToldInMind : ByteArray := prog_1_method_46_code
def yX_passToldInMind : MethodName := ⟨"NeverBothDoors", "passToldInMind", "()I"⟩
abbrev cX_passes : ByteArray := prog_1_method_8_code
def yX_passes : MethodName := ⟨"NeverBothDoors", "passes", "(II)I"⟩
abbrev cX_person : ByteArray := prog_1_method_6_code
def yX_person : MethodName := ⟨"NeverBothDoors", "person", "(II)I"⟩
abbrev cX_readBurrow : ByteArray := prog_1_method_35_code
def yX_readBurrow : MethodName := ⟨"NeverBothDoors", "readBurrow", "()I"⟩
abbrev cX_refuse : ByteArray := prog_1_method_30_code
def yX_refuse : MethodName := ⟨"NeverBothDoors", "refuse", "(I)I"⟩
abbrev cX_room : ByteArray := prog_1_method_4_code
def yX_room : MethodName := ⟨"NeverBothDoors", "room", "(II)I"⟩
abbrev cX_roomsUnlikeTold : ByteArray := prog_1_method_42_code
def yX_roomsUnlikeTold : MethodName := ⟨"NeverBothDoors", "roomsUnlikeTold", "(I)I"⟩
abbrev cX_row : ByteArray := prog_1_method_21_code
def yX_row : MethodName := ⟨"NeverBothDoors", "row", "(I)I"⟩
abbrev cX_seeds : ByteArray := prog_1_method_26_code
def yX_seeds : MethodName := ⟨"NeverBothDoors", "seeds", "(II)I"⟩
abbrev cX_soonest : ByteArray := prog_1_method_15_code
def yX_soonest : MethodName := ⟨"NeverBothDoors", "soonest", "(I)I"⟩
abbrev cX_sum : ByteArray := prog_1_method_34_code
def yX_sum : MethodName := ⟨"NeverBothDoors", "sum", "([I)I"⟩
abbrev cX_way : ByteArray := prog_1_method_14_code
def yX_way : MethodName := ⟨"NeverBothDoors", "way", "(II)I"⟩
abbrev cX_waysToLeak : ByteArray := prog_1_method_44_code
def yX_waysToLeak : MethodName := ⟨"NeverBothDoors", "waysToLeak", "(I)I"⟩
abbrev cX_wouldMakeAllSo : ByteArray := prog_1_method_43_code
def yX_wouldMakeAllSo : MethodName := ⟨"NeverBothDoors", "wouldMakeAllSo", "(IIII)Z"⟩
abbrev cB_init : ByteArray := prog_2_method_1_code
def yB_init : MethodName := ⟨"NeverBothDoors$Burrow", "<init>", "()V"⟩
abbrev cB_airBehind : ByteArray := prog_2_method_13_code
def yB_airBehind : MethodName := ⟨"NeverBothDoors$Burrow", "airBehind", "(III)I"⟩
abbrev cB_become : ByteArray := prog_2_method_2_code
def yB_become : MethodName := ⟨"NeverBothDoors$Burrow", "become", "(LNeverBothDoors$Burrow;)V"⟩
abbrev cB_breathIn : ByteArray := prog_2_method_12_code
def yB_breathIn : MethodName := ⟨"NeverBothDoors$Burrow", "breathIn", "(I)I"⟩
abbrev cB_breathOf : ByteArray := prog_2_method_11_code
def yB_breathOf : MethodName := ⟨"NeverBothDoors$Burrow", "breathOf", "(I)I"⟩
abbrev cB_canPass : ByteArray := prog_2_method_16_code
def yB_canPass : MethodName := ⟨"NeverBothDoors$Burrow", "canPass", "(II)Z"⟩
abbrev cB_goThrough : ByteArray := prog_2_method_17_code
def yB_goThrough : MethodName := ⟨"NeverBothDoors$Burrow", "goThrough", "(II)V"⟩
abbrev cB_hasLock : ByteArray := prog_2_method_3_code
def yB_hasLock : MethodName := ⟨"NeverBothDoors$Burrow", "hasLock", "(I)Z"⟩
abbrev cB_hasPerson : ByteArray := prog_2_method_4_code
def yB_hasPerson : MethodName := ⟨"NeverBothDoors$Burrow", "hasPerson", "(I)Z"⟩
abbrev cB_leastBare : ByteArray := prog_2_method_18_code
def yB_leastBare : MethodName := ⟨"NeverBothDoors$Burrow", "leastBare", "()I"⟩
abbrev cB_liveMinute : ByteArray := prog_2_method_14_code
def yB_liveMinute : MethodName := ⟨"NeverBothDoors$Burrow", "liveMinute", "()I"⟩
abbrev cB_liveMinutes : ByteArray := prog_2_method_15_code
def yB_liveMinutes : MethodName := ⟨"NeverBothDoors$Burrow", "liveMinutes", "(I)I"⟩
abbrev cB_peopleAt : ByteArray := prog_2_method_10_code
def yB_peopleAt : MethodName := ⟨"NeverBothDoors$Burrow", "peopleAt", "(I)I"⟩
abbrev cB_peopleOfFit : ByteArray := prog_2_method_20_code
def yB_peopleOfFit : MethodName := ⟨"NeverBothDoors$Burrow", "peopleOfFit", "(II)I"⟩
abbrev cB_suitsAreEnoughBut : ByteArray := prog_2_method_19_code
def yB_suitsAreEnoughBut : MethodName := ⟨"NeverBothDoors$Burrow", "suitsAreEnoughBut", "(I)Z"⟩
abbrev cB_tellAir : ByteArray := prog_2_method_5_code
def yB_tellAir : MethodName := ⟨"NeverBothDoors$Burrow", "tellAir", "(II)Z"⟩
abbrev cB_tellLeak : ByteArray := prog_2_method_6_code
def yB_tellLeak : MethodName := ⟨"NeverBothDoors$Burrow", "tellLeak", "(II)Z"⟩
abbrev cB_tellLock : ByteArray := prog_2_method_7_code
def yB_tellLock : MethodName := ⟨"NeverBothDoors$Burrow", "tellLock", "(IIII)Z"⟩
abbrev cB_tellPerson : ByteArray := prog_2_method_8_code
def yB_tellPerson : MethodName := ⟨"NeverBothDoors$Burrow", "tellPerson", "(IIII)Z"⟩
abbrev cB_tellSuits : ByteArray := prog_2_method_9_code
def yB_tellSuits : MethodName := ⟨"NeverBothDoors$Burrow", "tellSuits", "(II)Z"⟩
abbrev cT_init : ByteArray := prog_3_method_1_code
def yT_init : MethodName := ⟨"NeverBothDoors$Text", "<init>", "()V"⟩
abbrev cT_add : ByteArray := prog_3_method_2_code
def yT_add : MethodName := ⟨"NeverBothDoors$Text", "add", "(I)V"⟩
abbrev cT_behindStatement : ByteArray := prog_3_method_7_code
def yT_behindStatement : MethodName := ⟨"NeverBothDoors$Text", "behindStatement", "(I)I"⟩
abbrev cT_digitAt : ByteArray := prog_3_method_4_code
def yT_digitAt : MethodName := ⟨"NeverBothDoors$Text", "digitAt", "(I)I"⟩
abbrev cT_isDue : ByteArray := prog_3_method_9_code
def yT_isDue : MethodName := ⟨"NeverBothDoors$Text", "isDue", "(CI)Z"⟩
abbrev cT_misformedAt : ByteArray := prog_3_method_6_code
def yT_misformedAt : MethodName := ⟨"NeverBothDoors$Text", "misformedAt", "()I"⟩
abbrev cT_numberAt : ByteArray := prog_3_method_5_code
def yT_numberAt : MethodName := ⟨"NeverBothDoors$Text", "numberAt", "(I)I"⟩
abbrev cT_shapeBehind : ByteArray := prog_3_method_8_code
def yT_shapeBehind : MethodName := ⟨"NeverBothDoors$Text", "shapeBehind", "(I)Ljava/lang/String;"⟩
abbrev cT_signAt : ByteArray := prog_3_method_3_code
def yT_signAt : MethodName := ⟨"NeverBothDoors$Text", "signAt", "(I)I"⟩
abbrev cW_init : ByteArray := prog_4_method_1_code
def yW_init : MethodName := ⟨"NeverBothDoors$Ways", "<init>", "()V"⟩
abbrev cW_errandsFrom : ByteArray := prog_4_method_8_code
def yW_errandsFrom : MethodName := ⟨"NeverBothDoors$Ways", "errandsFrom", "(II)I"⟩
abbrev cW_farthestRoom : ByteArray := prog_4_method_6_code
def yW_farthestRoom : MethodName := ⟨"NeverBothDoors$Ways", "farthestRoom", "()I"⟩
abbrev cW_goOnFrom : ByteArray := prog_4_method_9_code
def yW_goOnFrom : MethodName := ⟨"NeverBothDoors$Ways", "goOnFrom", "(III)V"⟩
abbrev cW_join : ByteArray := prog_4_method_3_code
def yW_join : MethodName := ⟨"NeverBothDoors$Ways", "join", "(III)V"⟩
abbrev cW_longestWith : ByteArray := prog_4_method_7_code
def yW_longestWith : MethodName := ⟨"NeverBothDoors$Ways", "longestWith", "(II)I"⟩
abbrev cW_measure : ByteArray := prog_4_method_2_code
def yW_measure : MethodName := ⟨"NeverBothDoors$Ways", "measure", "(LNeverBothDoors$Burrow;)V"⟩
abbrev cW_shortenBy : ByteArray := prog_4_method_4_code
def yW_shortenBy : MethodName := ⟨"NeverBothDoors$Ways", "shortenBy", "(I)V"⟩
abbrev cW_toAnyRoom : ByteArray := prog_4_method_5_code
def yW_toAnyRoom : MethodName := ⟨"NeverBothDoors$Ways", "toAnyRoom", "(I)I"⟩
abbrev cM_init : ByteArray := prog_6_method_1_code
def yM_init : MethodName := ⟨"NeverBothDoorsModel", "<init>", "()V"⟩
abbrev cM_again : ByteArray := prog_6_method_50_code
def yM_again : MethodName := ⟨"NeverBothDoorsModel", "again", "([I)V"⟩
abbrev cM_air : ByteArray := prog_6_method_29_code
def yM_air : MethodName := ⟨"NeverBothDoorsModel", "air", "(II)I"⟩
abbrev cM_bare : ByteArray := prog_6_method_40_code
def yM_bare : MethodName := ⟨"NeverBothDoorsModel", "bare", "()I"⟩
abbrev cM_breath : ByteArray := prog_6_method_17_code
def yM_breath : MethodName := ⟨"NeverBothDoorsModel", "breath", "(I)I"⟩
abbrev cM_breathed : ByteArray := prog_6_method_18_code
def yM_breathed : MethodName := ⟨"NeverBothDoorsModel", "breathed", "(I)I"⟩
abbrev cM_burrow : ByteArray := prog_6_method_15_code
def yM_burrow : MethodName := ⟨"NeverBothDoorsModel", "burrow", "()I"⟩
abbrev cM_canHave : ByteArray := prog_6_method_38_code
def yM_canHave : MethodName := ⟨"NeverBothDoorsModel", "canHave", "(I)Z"⟩
abbrev cM_canPass : ByteArray := prog_6_method_24_code
def yM_canPass : MethodName := ⟨"NeverBothDoorsModel", "canPass", "(II)Z"⟩
abbrev cM_clear : ByteArray := prog_6_method_47_code
def yM_clear : MethodName := ⟨"NeverBothDoorsModel", "clear", "()I"⟩
abbrev cM_count : ByteArray := prog_6_method_53_code
def yM_count : MethodName := ⟨"NeverBothDoorsModel", "count", "(I)I"⟩
abbrev cM_ends : ByteArray := prog_6_method_46_code
def yM_ends : MethodName := ⟨"NeverBothDoorsModel", "ends", "()I"⟩
abbrev cM_errands : ByteArray := prog_6_method_37_code
def yM_errands : MethodName := ⟨"NeverBothDoorsModel", "errands", "(II)I"⟩
abbrev cM_farthest : ByteArray := prog_6_method_35_code
def yM_farthest : MethodName := ⟨"NeverBothDoorsModel", "farthest", "(I)I"⟩
abbrev cM_fitted : ByteArray := prog_6_method_39_code
def yM_fitted : MethodName := ⟨"NeverBothDoorsModel", "fitted", "()I"⟩
abbrev cM_gasps : ByteArray := prog_6_method_30_code
def yM_gasps : MethodName := ⟨"NeverBothDoorsModel", "gasps", "(I)I"⟩
abbrev cM_gauges : ByteArray := prog_6_method_43_code
def yM_gauges : MethodName := ⟨"NeverBothDoorsModel", "gauges", "(II)I"⟩
abbrev cM_goBy : ByteArray := prog_6_method_19_code
def yM_goBy : MethodName := ⟨"NeverBothDoorsModel", "goBy", "(I)I"⟩
abbrev cM_has : ByteArray := prog_6_method_4_code
def yM_has : MethodName := ⟨"NeverBothDoorsModel", "has", "(II)Z"⟩
abbrev cM_image : ByteArray := prog_6_method_51_code
def yM_image : MethodName := ⟨"NeverBothDoorsModel", "image", "()I"⟩
abbrev cM_is : ByteArray := prog_6_method_10_code
def yM_is : MethodName := ⟨"NeverBothDoorsModel", "is", "(I)Z"⟩
abbrev cM_isDigit : ByteArray := prog_6_method_11_code
def yM_isDigit : MethodName := ⟨"NeverBothDoorsModel", "isDigit", "()Z"⟩
abbrev cM_isLock : ByteArray := prog_6_method_7_code
def yM_isLock : MethodName := ⟨"NeverBothDoorsModel", "isLock", "(I)Z"⟩
abbrev cM_isOne : ByteArray := prog_6_method_8_code
def yM_isOne : MethodName := ⟨"NeverBothDoorsModel", "isOne", "(I)Z"⟩
abbrev cM_isPlace : ByteArray := prog_6_method_6_code
def yM_isPlace : MethodName := ⟨"NeverBothDoorsModel", "isPlace", "(I)Z"⟩
abbrev cM_isRoom : ByteArray := prog_6_method_5_code
def yM_isRoom : MethodName := ⟨"NeverBothDoorsModel", "isRoom", "(I)Z"⟩
abbrev cM_isSo : ByteArray := prog_6_method_42_code
def yM_isSo : MethodName := ⟨"NeverBothDoorsModel", "isSo", "(I)Z"⟩
abbrev cM_judge : ByteArray := prog_6_method_45_code
def yM_judge : MethodName := ⟨"NeverBothDoorsModel", "judge", "()I"⟩
abbrev cM_judged : ByteArray := prog_6_method_44_code
def yM_judged : MethodName := ⟨"NeverBothDoorsModel", "judged", "()I"⟩
abbrev cM_keep : ByteArray := prog_6_method_49_code
def yM_keep : MethodName := ⟨"NeverBothDoorsModel", "keep", "([I)V"⟩
abbrev cM_leak : ByteArray := prog_6_method_28_code
def yM_leak : MethodName := ⟨"NeverBothDoorsModel", "leak", "(II)I"⟩
abbrev cM_letter : ByteArray := prog_6_method_9_code
def yM_letter : MethodName := ⟨"NeverBothDoorsModel", "letter", "(I)I"⟩
abbrev cM_lock : ByteArray := prog_6_method_21_code
def yM_lock : MethodName := ⟨"NeverBothDoorsModel", "lock", "(II)I"⟩
abbrev cM_minutes : ByteArray := prog_6_method_27_code
def yM_minutes : MethodName := ⟨"NeverBothDoorsModel", "minutes", "(I)I"⟩
abbrev cM_more : ByteArray := prog_6_method_36_code
def yM_more : MethodName := ⟨"NeverBothDoorsModel", "more", "(I)I"⟩
abbrev cM_newLock : ByteArray := prog_6_method_13_code
def yM_newLock : MethodName := ⟨"NeverBothDoorsModel", "newLock", "(IIII)V"⟩
abbrev cM_no : ByteArray := prog_6_method_2_code
def yM_no : MethodName := ⟨"NeverBothDoorsModel", "no", "(I)I"⟩
abbrev cM_number : ByteArray := prog_6_method_12_code
def yM_number : MethodName := ⟨"NeverBothDoorsModel", "number", "(II)Z"⟩
abbrev cM_on : ByteArray := prog_6_method_52_code
def yM_on : MethodName := ⟨"NeverBothDoorsModel", "on", "()I"⟩
abbrev cM_open : ByteArray := prog_6_method_23_code
def yM_open : MethodName := ⟨"NeverBothDoorsModel", "open", "(II)I"⟩
abbrev cM_out : ByteArray := prog_6_method_31_code
def yM_out : MethodName := ⟨"NeverBothDoorsModel", "out", "()I"⟩
abbrev cM_pass : ByteArray := prog_6_method_25_code
def yM_pass : MethodName := ⟨"NeverBothDoorsModel", "pass", "(II)I"⟩
abbrev cM_passes : ByteArray := prog_6_method_26_code
def yM_passes : MethodName := ⟨"NeverBothDoorsModel", "passes", "(II)I"⟩
abbrev cM_person : ByteArray := prog_6_method_22_code
def yM_person : MethodName := ⟨"NeverBothDoorsModel", "person", "(II)I"⟩
abbrev cM_room : ByteArray := prog_6_method_20_code
def yM_room : MethodName := ⟨"NeverBothDoorsModel", "room", "(II)I"⟩
abbrev cM_row : ByteArray := prog_6_method_41_code
def yM_row : MethodName := ⟨"NeverBothDoorsModel", "row", "(I)I"⟩
abbrev cM_seeds : ByteArray := prog_6_method_48_code
def yM_seeds : MethodName := ⟨"NeverBothDoorsModel", "seeds", "(II)I"⟩
abbrev cM_soonest : ByteArray := prog_6_method_34_code
def yM_soonest : MethodName := ⟨"NeverBothDoorsModel", "soonest", "(I)I"⟩
abbrev cM_statement : ByteArray := prog_6_method_14_code
def yM_statement : MethodName := ⟨"NeverBothDoorsModel", "statement", "(Z)I"⟩
abbrev cM_there : ByteArray := prog_6_method_16_code
def yM_there : MethodName := ⟨"NeverBothDoorsModel", "there", "(I)I"⟩
abbrev cM_walk : ByteArray := prog_6_method_32_code
def yM_walk : MethodName := ⟨"NeverBothDoorsModel", "walk", "(I)V"⟩
abbrev cM_way : ByteArray := prog_6_method_33_code
def yM_way : MethodName := ⟨"NeverBothDoorsModel", "way", "(II)I"⟩
abbrev cM_within : ByteArray := prog_6_method_3_code
def yM_within : MethodName := ⟨"NeverBothDoorsModel", "within", "(III)Z"⟩
abbrev cJC_highSurrogate : ByteArray := prog_7_method_28_code
def yJC_highSurrogate : MethodName := ⟨"java/lang/Character", "highSurrogate", "(I)C"⟩
abbrev cJC_isValidCodePoint : ByteArray := prog_7_method_11_code
def yJC_isValidCodePoint : MethodName := ⟨"java/lang/Character", "isValidCodePoint", "(I)Z"⟩
abbrev cJC_lowSurrogate : ByteArray := prog_7_method_29_code
def yJC_lowSurrogate : MethodName := ⟨"java/lang/Character", "lowSurrogate", "(I)C"⟩
abbrev cJI_bitCount : ByteArray := prog_8_method_49_code
def yJI_bitCount : MethodName := ⟨"java/lang/Integer", "bitCount", "(I)I"⟩
abbrev cJM_max : ByteArray := prog_9_method_65_code
def yJM_max : MethodName := ⟨"java/lang/Math", "max", "(II)I"⟩
abbrev cJM_min : ByteArray := prog_9_method_69_code
def yJM_min : MethodName := ⟨"java/lang/Math", "min", "(II)I"⟩
abbrev cJS_charAt : ByteArray := prog_10_method_56_code
def yJS_charAt : MethodName := ⟨"java/lang/String", "charAt", "(I)C"⟩
abbrev cJS_checkBoundsBeginEnd : ByteArray := prog_10_method_158_code
def yJS_checkBoundsBeginEnd : MethodName := ⟨"java/lang/String", "checkBoundsBeginEnd", "(III)V"⟩
abbrev cJS_checkIndex : ByteArray := prog_10_method_155_code
def yJS_checkIndex : MethodName := ⟨"java/lang/String", "checkIndex", "(II)V"⟩
abbrev cJS_coder : ByteArray := prog_10_method_152_code
def yJS_coder : MethodName := ⟨"java/lang/String", "coder", "()B"⟩
abbrev cJS_indexOf0 : ByteArray := prog_10_method_79_code
def yJS_indexOf0 : MethodName := ⟨"java/lang/String", "indexOf", "(I)I"⟩
abbrev cJS_indexOf1 : ByteArray := prog_10_method_80_code
def yJS_indexOf1 : MethodName := ⟨"java/lang/String", "indexOf", "(II)I"⟩
abbrev cJS_isEmpty : ByteArray := prog_10_method_55_code
def yJS_isEmpty : MethodName := ⟨"java/lang/String", "isEmpty", "()Z"⟩
abbrev cJS_isLatin1 : ByteArray := prog_10_method_154_code
def yJS_isLatin1 : MethodName := ⟨"java/lang/String", "isLatin1", "()Z"⟩
abbrev cJS_length : ByteArray := prog_10_method_54_code
def yJS_length : MethodName := ⟨"java/lang/String", "length", "()I"⟩
abbrev cJL_canEncode : ByteArray := prog_11_method_4_code
def yJL_canEncode : MethodName := ⟨"java/lang/StringLatin1", "canEncode", "(I)Z"⟩
abbrev cJL_charAt : ByteArray := prog_11_method_2_code
def yJL_charAt : MethodName := ⟨"java/lang/StringLatin1", "charAt", "([BI)C"⟩
abbrev cJL_indexOf : ByteArray := prog_11_method_22_code
def yJL_indexOf : MethodName := ⟨"java/lang/StringLatin1", "indexOf", "([BIII)I"⟩
abbrev cJL_indexOfChar : ByteArray := prog_11_method_23_code
def yJL_indexOfChar : MethodName := ⟨"java/lang/StringLatin1", "indexOfChar", "([BIII)I"⟩
abbrev cJU_charAt : ByteArray := prog_12_method_83_code
def yJU_charAt : MethodName := ⟨"java/lang/StringUTF16", "charAt", "([BI)C"⟩
abbrev cJU_checkBoundsBeginEnd : ByteArray := prog_12_method_93_code
def yJU_checkBoundsBeginEnd : MethodName := ⟨"java/lang/StringUTF16", "checkBoundsBeginEnd", "(II[B)V"⟩
abbrev cJU_checkIndex : ByteArray := prog_12_method_91_code
def yJU_checkIndex : MethodName := ⟨"java/lang/StringUTF16", "checkIndex", "(I[B)V"⟩
abbrev cJU_getChar : ByteArray := prog_12_method_5_code
def yJU_getChar : MethodName := ⟨"java/lang/StringUTF16", "getChar", "([BI)C"⟩
abbrev cJU_indexOf : ByteArray := prog_12_method_40_code
def yJU_indexOf : MethodName := ⟨"java/lang/StringUTF16", "indexOf", "([BIII)I"⟩
abbrev cJU_indexOfChar : ByteArray := prog_12_method_47_code
def yJU_indexOfChar : MethodName := ⟨"java/lang/StringUTF16", "indexOfChar", "([BIII)I"⟩
abbrev cJU_indexOfCharUnsafe : ByteArray := prog_12_method_48_code
def yJU_indexOfCharUnsafe : MethodName := ⟨"java/lang/StringUTF16", "indexOfCharUnsafe", "([BIII)I"⟩
abbrev cJU_indexOfSupplementary : ByteArray := prog_12_method_49_code
def yJU_indexOfSupplementary : MethodName := ⟨"java/lang/StringUTF16", "indexOfSupplementary", "([BIII)I"⟩
abbrev cJU_length : ByteArray := prog_12_method_6_code
def yJU_length : MethodName := ⟨"java/lang/StringUTF16", "length", "([B)I"⟩
abbrev cJA_fill : ByteArray := prog_14_method_103_code
def yJA_fill : MethodName := ⟨"java/util/Arrays", "fill", "([II)V"⟩
abbrev cJP_checkFromToIndex : ByteArray := prog_15_method_12_code
def yJP_checkFromToIndex : MethodName := ⟨"jdk/internal/util/Preconditions", "checkFromToIndex", "(IIILjava/util/function/BiFunction;)I"⟩
abbrev cJP_checkIndex : ByteArray := prog_15_method_11_code
def yJP_checkIndex : MethodName := ⟨"jdk/internal/util/Preconditions", "checkIndex", "(IILjava/util/function/BiFunction;)I"⟩
def RR_B : String := "NeverBothDoors$Burrow"
def FF_B : u_T := fun k => match k with
  | 0 => ("NeverBothDoors$Burrow", "air", "[I", true)
  | 1 => ("NeverBothDoors$Burrow", "leak", "[I", true)
  | 2 => ("NeverBothDoors$Burrow", "lesser", "[I", true)
  | 3 => ("NeverBothDoors$Burrow", "other", "[I", true)
  | 4 => ("NeverBothDoors$Burrow", "size", "[I", true)
  | 5 => ("NeverBothDoors$Burrow", "cycle", "[I", true)
  | 6 => ("NeverBothDoors$Burrow", "door", "[I", true)
  | 7 => ("NeverBothDoors$Burrow", "locks", "I", false)
  | 8 => ("NeverBothDoors$Burrow", "kind", "[I", true)
  | 9 => ("NeverBothDoors$Burrow", "place", "[I", true)
  | 10 => ("NeverBothDoors$Burrow", "fit", "[I", true)
  | 11 => ("NeverBothDoors$Burrow", "suit", "[I", true)
  | 12 => ("NeverBothDoors$Burrow", "people", "I", false)
  | 13 => ("NeverBothDoors$Burrow", "suits", "[I", true)
  | 14 => ("NeverBothDoors$Burrow", "minute", "I", false)
  | _ => ("NeverBothDoors$Burrow", "gasped", "I", false)
def tyF_B : Nat → FieldType := fun k => match k with
  | 0 => .array .int
  | 1 => .array .int
  | 2 => .array .int
  | 3 => .array .int
  | 4 => .array .int
  | 5 => .array .int
  | 6 => .array .int
  | 7 => .int
  | 8 => .array .int
  | 9 => .array .int
  | 10 => .array .int
  | 11 => .array .int
  | 12 => .int
  | 13 => .array .int
  | 14 => .int
  | _ => .int
abbrev uwF_B : List Cond := u_ws RR_B FF_B 16
theorem nmF_B : ∀ a, a < 16 → ∀ b, b < 16 → a ≠ b → (FF_B a).2.1 ≠ (FF_B b).2.1 := by decide +kernel
theorem tyF_B_ok : ∀ k, k < 16 → parseFieldDescriptor (FF_B k).2.2.1 = some (tyF_B k) := by decide +kernel
def RR_T : String := "NeverBothDoors$Text"
def FF_T : u_T := fun k => match k with
  | 0 => ("NeverBothDoors$Text", "signs", "[I", true)
  | _ => ("NeverBothDoors$Text", "length", "I", false)
def tyF_T : Nat → FieldType := fun k => match k with
  | 0 => .array .int
  | _ => .int
abbrev uwF_T : List Cond := u_ws RR_T FF_T 2
theorem nmF_T : ∀ a, a < 2 → ∀ b, b < 2 → a ≠ b → (FF_T a).2.1 ≠ (FF_T b).2.1 := by decide +kernel
theorem tyF_T_ok : ∀ k, k < 2 → parseFieldDescriptor (FF_T k).2.2.1 = some (tyF_T k) := by decide +kernel
def RR_W : String := "NeverBothDoors$Ways"
def FF_W : u_T := fun k => match k with
  | 0 => ("NeverBothDoors$Ways", "length", "[[I", true)
  | _ => ("NeverBothDoors$Ways", "errand", "[I", true)
def tyF_W : Nat → FieldType := fun k => match k with
  | 0 => .array (.array .int)
  | _ => .array .int
abbrev uwF_W : List Cond := u_ws RR_W FF_W 2
theorem nmF_W : ∀ a, a < 2 → ∀ b, b < 2 → a ≠ b → (FF_W a).2.1 ≠ (FF_W b).2.1 := by decide +kernel
theorem tyF_W_ok : ∀ k, k < 2 → parseFieldDescriptor (FF_W k).2.2.1 = some (tyF_W k) := by decide +kernel
def RR_X : String := "NeverBothDoors"
def FF_X : u_T := fun k => match k with
  | 0 => ("NeverBothDoors", "now", "LNeverBothDoors$Burrow;", true)
  | 1 => ("NeverBothDoors", "mind", "LNeverBothDoors$Burrow;", true)
  | 2 => ("NeverBothDoors", "kept", "LNeverBothDoors$Burrow;", true)
  | 3 => ("NeverBothDoors", "imageTaken", "Z", false)
  | 4 => ("NeverBothDoors", "text", "LNeverBothDoors$Text;", true)
  | 5 => ("NeverBothDoors", "ways", "LNeverBothDoors$Ways;", true)
  | 6 => ("NeverBothDoors", "told", "[I", true)
  | 7 => ("NeverBothDoors", "toldCount", "I", false)
  | _ => ("NeverBothDoors", "refusals", "[I", true)
def tyF_X : Nat → FieldType := fun k => match k with
  | 0 => .object "NeverBothDoors$Burrow"
  | 1 => .object "NeverBothDoors$Burrow"
  | 2 => .object "NeverBothDoors$Burrow"
  | 3 => .boolean
  | 4 => .object "NeverBothDoors$Text"
  | 5 => .object "NeverBothDoors$Ways"
  | 6 => .array .int
  | 7 => .int
  | _ => .array .int
abbrev uwF_X : List Cond := u_ws RR_X FF_X 9
theorem nmF_X : ∀ a, a < 9 → ∀ b, b < 9 → a ≠ b → (FF_X a).2.1 ≠ (FF_X b).2.1 := by decide +kernel
theorem tyF_X_ok : ∀ k, k < 9 → parseFieldDescriptor (FF_X k).2.2.1 = some (tyF_X k) := by decide +kernel
def RR_M : String := "NeverBothDoorsModel"
def FF_M : u_T := fun k => match k with
  | 0 => ("NeverBothDoorsModel", "air", "[I", true)
  | 1 => ("NeverBothDoorsModel", "leak", "[I", true)
  | 2 => ("NeverBothDoorsModel", "locks", "I", false)
  | 3 => ("NeverBothDoorsModel", "one", "[I", true)
  | 4 => ("NeverBothDoorsModel", "two", "[I", true)
  | 5 => ("NeverBothDoorsModel", "size", "[I", true)
  | 6 => ("NeverBothDoorsModel", "cycle", "[I", true)
  | 7 => ("NeverBothDoorsModel", "doors", "[I", true)
  | 8 => ("NeverBothDoorsModel", "people", "I", false)
  | 9 => ("NeverBothDoorsModel", "kind", "[I", true)
  | 10 => ("NeverBothDoorsModel", "place", "[I", true)
  | 11 => ("NeverBothDoorsModel", "fit", "[I", true)
  | 12 => ("NeverBothDoorsModel", "suit", "[I", true)
  | 13 => ("NeverBothDoorsModel", "minute", "I", false)
  | 14 => ("NeverBothDoorsModel", "suits", "[I", true)
  | 15 => ("NeverBothDoorsModel", "gasped", "I", false)
  | 16 => ("NeverBothDoorsModel", "letters", "I", false)
  | 17 => ("NeverBothDoorsModel", "letter", "[I", true)
  | 18 => ("NeverBothDoorsModel", "at", "I", false)
  | 19 => ("NeverBothDoorsModel", "value", "[I", true)
  | 20 => ("NeverBothDoorsModel", "inRow", "I", false)
  | 21 => ("NeverBothDoorsModel", "row", "[I", true)
  | 22 => ("NeverBothDoorsModel", "refusals", "[I", true)
  | 23 => ("NeverBothDoorsModel", "imaged", "Z", false)
  | 24 => ("NeverBothDoorsModel", "image", "[I", true)
  | 25 => ("NeverBothDoorsModel", "ahead", "[I", true)
  | 26 => ("NeverBothDoorsModel", "ways", "[I", true)
  | 27 => ("NeverBothDoorsModel", "least", "[I", true)
  | _ => ("NeverBothDoorsModel", "left", "[I", true)
def tyF_M : Nat → FieldType := fun k => match k with
  | 0 => .array .int
  | 1 => .array .int
  | 2 => .int
  | 3 => .array .int
  | 4 => .array .int
  | 5 => .array .int
  | 6 => .array .int
  | 7 => .array .int
  | 8 => .int
  | 9 => .array .int
  | 10 => .array .int
  | 11 => .array .int
  | 12 => .array .int
  | 13 => .int
  | 14 => .array .int
  | 15 => .int
  | 16 => .int
  | 17 => .array .int
  | 18 => .int
  | 19 => .array .int
  | 20 => .int
  | 21 => .array .int
  | 22 => .array .int
  | 23 => .boolean
  | 24 => .array .int
  | 25 => .array .int
  | 26 => .array .int
  | 27 => .array .int
  | _ => .array .int
abbrev uwF_M : List Cond := u_ws RR_M FF_M 29
theorem nmF_M : ∀ a, a < 29 → ∀ b, b < 29 → a ≠ b → (FF_M a).2.1 ≠ (FF_M b).2.1 := by decide +kernel
theorem tyF_M_ok : ∀ k, k < 29 → parseFieldDescriptor (FF_M k).2.2.1 = some (tyF_M k) := by decide +kernel
abbrev classes : List vw_C := [(RR_B, FF_B, 16), (RR_T, FF_T, 2), (RR_W, FF_W, 2), (RR_X, FF_X, 9), (RR_M, FF_M, 29)]
set_option maxRecDepth 20000 in
theorem uu_B : ∀ w ∈ uwF_B, w ∈ UW := fun w h => List.mem_filter.mpr ⟨(by decide +kernel : ∀ w ∈ uwF_B, w ∈ lw_tbl) w h, List.all_eq_true.mp (by decide +kernel : uwF_B.all goodWord = true) w h⟩
set_option maxRecDepth 20000 in
theorem uu_T : ∀ w ∈ uwF_T, w ∈ UW := fun w h => List.mem_filter.mpr ⟨(by decide +kernel : ∀ w ∈ uwF_T, w ∈ lw_tbl) w h, List.all_eq_true.mp (by decide +kernel : uwF_T.all goodWord = true) w h⟩
set_option maxRecDepth 20000 in
theorem uu_W : ∀ w ∈ uwF_W, w ∈ UW := fun w h => List.mem_filter.mpr ⟨(by decide +kernel : ∀ w ∈ uwF_W, w ∈ lw_tbl) w h, List.all_eq_true.mp (by decide +kernel : uwF_W.all goodWord = true) w h⟩
set_option maxRecDepth 20000 in
theorem uu_X : ∀ w ∈ uwF_X, w ∈ UW := fun w h => List.mem_filter.mpr ⟨(by decide +kernel : ∀ w ∈ uwF_X, w ∈ lw_tbl) w h, List.all_eq_true.mp (by decide +kernel : uwF_X.all goodWord = true) w h⟩
set_option maxRecDepth 20000 in
theorem uu_M : ∀ w ∈ uwF_M, w ∈ UW := fun w h => List.mem_filter.mpr ⟨(by decide +kernel : ∀ w ∈ uwF_M, w ∈ lw_tbl) w h, List.all_eq_true.mp (by decide +kernel : uwF_M.all goodWord = true) w h⟩
end
section
/-! THE CALCULUS: a judgement whose goal shows the world, the place, the locals and the stack alone; a row an instruction -/
abbrev ZZ : Type := va_G × ClassId × ClassId × (Nat → Nat) × (Nat → Nat) × (Nat → Prop)
abbrev zD (Z : ZZ) : va_G := Z.1
abbrev zI (Z : ZZ) : ClassId := Z.2.1
abbrev zJ (Z : ZZ) : ClassId := Z.2.2.1
abbrev zB (Z : ZZ) : Nat → Prop := Z.2.2.2.2.2
abbrev tys (Z : ZZ) : List (ClassId × FieldType) := [(zI Z, .int), (zJ Z, .array .int)]
-- the literals
def sOw : Nat → String := fun i => match i with
  | 5 => "NeverBothDoorsModel"
  | _ => "NeverBothDoors$Text"
def sIx : Nat → Nat := fun i => match i with
  | 0 => 50 | 1 => 52 | 2 => 54 | 3 => 56 | 4 => 58 | _ => 119
def sTx : Nat → String := fun i => match i with
  | 0 => "#,#??;" | 1 => "##;" | 2 => "####;" | 3 => "@##,#?;" | 4 => "" | _ => "pcwhts"
abbrev sByt : List (List Int32) := [[35, 44, 35, 63, 63, 59], [35, 35, 59], [35, 35, 35, 35, 59], [64, 35, 35, 44, 35, 63, 59], [], [112, 99, 119, 104, 116, 115]]
abbrev sLen : List Nat := [6, 3, 5, 7, 0, 6]
/-- what stays as it is: links between nest mates, the literals, two statics -/
def EN (Z : ZZ) (U : State) (H : Heap) : Prop :=
  (va_Nw (.methodLinkNest "NeverBothDoors$Text" 60 yX_kindOf "NeverBothDoors") U ∧ va_Nw (.methodLinkNest "NeverBothDoors$Burrow" 73 yX_isRoom "NeverBothDoors") U ∧ va_Nw (.methodLinkNest "NeverBothDoors$Burrow" 77 yX_isPlace "NeverBothDoors") U ∧ va_Nw (.methodLinkNest "NeverBothDoors$Burrow" 96 yX_breathOfKind "NeverBothDoors") U ∧ va_Nw (.methodLinkNest "NeverBothDoors$Ways" 44 yX_isPlace "NeverBothDoors") U) ∧
  (∀ i, i < 6 → vk_R (sOw i) (sIx i) (sTx i) (Z.2.2.2.1 i) U) ∧ vk_S 6 sLen sByt Z.2.2.2.1 Z.2.2.2.2.1 (zB Z) U H ∧ va_Z "java/lang/String" "COMPACT_STRINGS" "Z" (.int 1) (zB Z) U H ∧ va_Zq "jdk/internal/util/Preconditions" "SIOOBE_FORMATTER" "Ljava/util/function/BiFunction;" (zB Z) U H
theorem EN.kept {Z : ZZ} {U : State} {H H1 : Heap} (h : EN Z U H) (hq : ∀ a : Nat, a < H.size → ¬ zB Z a → H1[a]? = H[a]?) : EN Z U H1 :=
  ⟨h.1, h.2.1, h.2.2.1.kept hq, h.2.2.2.1.kept hq, h.2.2.2.2.kept hq⟩
theorem EN.warm {Z : ZZ} {s U : State} {H : Heap} (hW : s.WarmedH U.vm) (h : EN Z s H) : EN Z U H :=
  ⟨⟨va_Nw.warmM hW h.1.1, va_Nw.warmM hW h.1.2.1, va_Nw.warmM hW h.1.2.2.1, va_Nw.warmM hW h.1.2.2.2.1, va_Nw.warmM hW h.1.2.2.2.2⟩, fun i hi => (h.2.1 i hi).warm hW, h.2.2.1.moved hW.alike, h.2.2.2.1.moved hW.alike, h.2.2.2.2.moved hW.alike⟩
theorem EN.same {Z : ZZ} {u U : State} {H : Heap} (hv : U.vm = u.vm) (h : EN Z u H) : EN Z U H :=
  ⟨⟨va_Nw.same rfl hv.symm h.1.1, va_Nw.same rfl hv.symm h.1.2.1, va_Nw.same rfl hv.symm h.1.2.2.1, va_Nw.same rfl hv.symm h.1.2.2.2.1, va_Nw.same rfl hv.symm h.1.2.2.2.2⟩, fun i hi => (h.2.1 i hi).same hv, h.2.2.1.moved (by rw [hv]; exact Vm.Alike.refl _), h.2.2.2.1.moved (by rw [hv]; exact Vm.Alike.refl _), h.2.2.2.2.moved (by rw [hv]; exact Vm.Alike.refl _)⟩
-- worlds
theorem va_D_keys {A : Nat → Prop} {ws ws' : va_W} (hk : ws'.map (·.1) = ws.map (·.1)) (h : va_D A ws) : va_D A ws' := by
  have key : ∀ (k : Nat) (q : Nat × va_E), ws'[k]? = some q → ∃ q0, ws[k]? = some q0 ∧ q0.1 = q.1 := by
    intro k q hq
    have h1 : (ws'.map (·.1))[k]? = some q.1 := by rw [List.getElem?_map, hq]; rfl
    rw [hk, List.getElem?_map] at h1
    cases hw : ws[k]? with
    | none => rw [hw] at h1; cases h1
    | some q0 => rw [hw] at h1; exact ⟨q0, rfl, Option.some.inj h1⟩
  refine ⟨fun i j x y hi hj hxy => ?_, fun k q hq => ?_⟩
  · obtain ⟨x0, a1, a2⟩ := key i x hi
    obtain ⟨y0, b1, b2⟩ := key j y hj
    exact h.1 i j x0 y0 a1 b1 (a2.trans (hxy.trans b2.symm))
  · obtain ⟨q0, a1, a2⟩ := key k q hq
    rw [← a2]
    exact h.2 k q0 a1
def putW : va_W → List Nat → va_W → va_W
  | ws, i :: is, x :: xs => putW (ws.set i x) is xs
  | ws, _, _ => ws
theorem putW_P {D : va_G} {cl : List vw_C} {H1 : Heap} : ∀ (is : List Nat) (ws wc' : va_W), is.length = wc'.length → (∀ (k : Nat) (q : Nat × va_E), ws[k]? = some q → k ∉ is → va_at D cl q H1) → va_P D cl wc' H1 → va_P D cl (putW ws is wc') H1
  | [], ws, _, _, h, _ => by
    rw [show putW ws [] _ = ws from by cases ‹va_W› <;> rfl]
    exact fun k q hq => h k q hq (by simp)
  | i :: is, ws, [], hl, _, _ => by simp at hl
  | i :: is, ws, x :: xs, hl, h, hP => by
    show va_P D cl (putW (ws.set i x) is xs) H1
    refine putW_P is _ xs (by simpa using hl) (fun k q hq hk => ?_) (fun k q hq => hP (k + 1) q (by simpa using hq))
    by_cases hki : k = i
    · subst hki
      have hlt : k < ws.length := by
        have := (List.getElem?_eq_some_iff.mp hq).1
        simpa using this
      rw [List.getElem?_set_self hlt] at hq
      cases hq
      exact hP 0 x rfl
    · rw [List.getElem?_set_ne (Ne.symm hki)] at hq
      exact h k q hq (by simp [hki, hk])
theorem putW_keys : ∀ (is : List Nat) (ws wc' : va_W), is.map (fun i => (ws.map (·.1))[i]?) = wc'.map (fun q => some q.1) → (putW ws is wc').map (·.1) = ws.map (·.1)
  | [], ws, wc', _ => by rw [show putW ws [] wc' = ws from by cases wc' <;> rfl]
  | i :: is, ws, [], h => by simp at h
  | i :: is, ws, x :: xs, h => by
    rw [List.map_cons, List.map_cons] at h
    obtain ⟨h1, h2⟩ := List.cons.inj h
    have hs : (ws.set i x).map (·.1) = ws.map (·.1) := by
      rw [List.map_set]
      apply List.ext_getElem?
      intro k
      by_cases hk : k = i
      · subst hk
        rw [h1]
        have hlt : k < (ws.map (·.1)).length := (List.getElem?_eq_some_iff.mp h1).1
        rw [List.getElem?_set_self hlt]
      · rw [List.getElem?_set_ne (Ne.symm hk)]
    show (putW (ws.set i x) is xs).map (·.1) = _
    rw [putW_keys is _ xs (by rw [hs]; exact h2), hs]
-- contracts
abbrev rmD (d : Nat) : Room := { frames := d, cells := 0, slots := 0, locals := 37 * d }
def PcZ (Z : ZZ) (As : List Value) (ws : va_W) (sz : Nat) : Array Value → State → Prop := va_Pc As (fun U => U.heap.size = sz ∧ va_P (zD Z) classes ws U.heap ∧ va_K (zD Z) classes (tys Z) U ∧ va_D (zB Z) ws ∧ EN Z U U.heap ∧ ∀ q, sz ≤ q → zB Z q)
def QcZ (Z : ZZ) (ws : va_W) (sz : Nat) (Post : Option Value → va_W → Prop) : Array Value → State → Outcome → State → Prop := fun _ st oc t => (∃ (v : Option Value) (ws' : va_W), oc = .returned v ∧ Post v ws' ∧ ws'.map (·.1) = ws.map (·.1) ∧ va_P (zD Z) classes ws' t.heap) ∧ va_F (va_A ws sz) st t
def Con (l : Launch) (Z : ZZ) (y : MethodName) (b : ByteArray) (n : Nat) (ret : Option FieldType) (d : Nat) (As : List Value) (ws : va_W) (Post : Option Value → va_W → Prop) : Prop :=
  ∀ sz, Met l y (.code y b n ret :: UW) (rmD d) (PcZ Z As ws sz) (QcZ Z ws sz Post) 0 0 (va_A ws sz)
theorem PcZ.blind (Z : ZZ) (As : List Value) (ws : va_W) (sz : Nat) : FrameBlind (PcZ Z As ws sz) := fun a U g mk q => by
  obtain ⟨q0, q1, qP, qK, qD, qE, qB⟩ := q
  exact ⟨q0, q1, qP, va_K.moved (u := U) (U := U.calling g mk a) (Vm.Alike.refl U.vm) qK, qD, EN.same (u := U) rfl qE, qB⟩
-- the judgement
abbrev XX : Type := Program × Launch × Env × Room × State × MethodId × Array Value × List Frame × Method × Code × Nat × Nat × (State → Prop) × Nat × (Nat → Prop)
def G : XX → ZZ → va_W → Nat → List (Nat × Value) → List Value → Prop
  | (p, l, e, R, s, m, args, below, meth, c, kc, ks, Q, nL, A), Z, ws, pc, lv, st => ∀ (ls : Array Slot) (H : Heap) (locs : List Loc), lv_has ls nL lv → va_P (zD Z) classes ws H → va_D A ws → va_S A s.heap H locs → W p l e R s m args below meth c H locs kc ks Q (F0 m pc ls st)
/-- the standing facts of a body: its code, its class, its locals, its launch, its depth -/
def Okk : XX → ZZ → ByteArray → Nat → String → Launch → Nat → Prop
  | (p, l, e, R, s, m, args, below, meth, c, kc, ks, Q, nL, A), Z, cc, n, own, l0, d => p.tables.exec = Jvm.exec ∧ c.code = cc ∧ c.maxLocals = nL ∧ s.vm.findClass own = some m.cls ∧ (∀ w ∈ UW, w.before args s = true) ∧ va_K (zD Z) classes (tys Z) s ∧ (∀ q, s.heap.size ≤ q → A q) ∧ meth.locks = false ∧ EN Z s s.heap ∧ (∀ q, A q → zB Z q) ∧ (∀ q, s.heap.size ≤ q → zB Z q) ∧ (kc ≤ R.cells ∧ ks ≤ R.slots ∧ d ≤ R.frames ∧ 37 * d ≤ R.locals) ∧ n = nL ∧ l0 = l
/-- what a body's end must bring -/
def Ret : XX → ZZ → va_W → (Option Value → va_W → Prop) → Option FieldType → Prop
  | (_, _, _, _, s, _, args, below, meth, _, kc, ks, Q, _, A), Z, ws, Post, ret => Q = MQ below (QcZ Z ws s.heap.size Post) args s 0 0 A ∧ A = va_A ws s.heap.size ∧ meth.sig.returnType = ret ∧ kc = 0 ∧ ks = 0
theorem Con.of {l : Launch} {Z : ZZ} {y : MethodName} {b : ByteArray} {n : Nat} {ret : Option FieldType} {d : Nat} {As : List Value} {ws : va_W} {Post : Option Value → va_W → Prop} (hy : plainName y.cls = true) (hn : (lg_sl As).length ≤ n)
    (body : ∀ X : XX, Okk X Z b n y.cls l d → Ret X Z ws Post ret → G X Z ws 0 (lv_args 0 As) []) : Con l Z y b n ret d As ws Post := by
  intro sz
  refine Met.ofW (cc := b) (maxL := n) (ret := ret) hy rfl ?_
  intro p e s m args below meth c s₁ B hml hv
  obtain ⟨rfl, hsz, hP, hK, hD0, hE, hB⟩ := hv
  have hx := B.exec
  have hb := B.bytes
  have hr := B.returns
  have hts := atoms_spec (ws := .code y b n ret :: UW) B.pre
  have hown : s.vm.findClass y.cls = some m.cls := findClass_of_methodNamed B.named
  have hlocks := B.notSynchronized
  subst hsz
  have hg := body (p, l, e, rmD d, s, m, As.toArray, below, meth, c, 0, 0, MQ below (QcZ Z ws s.heap.size Post) As.toArray s 0 0 (va_A ws s.heap.size), n, va_A ws s.heap.size)
    ⟨hx, hb, hml, hown, fun w hw => hts w (List.mem_cons_of_mem _ hw), hK, fun q h => Or.inr h, hlocks, hE, fun q h => by
      rcases h with ⟨k, e9, h⟩ | h
      · exact hD0.2 k (q, e9) h
      · exact hB q h, hB, ⟨Nat.le_refl _, Nat.le_refl _, Nat.le_refl _, Nat.le_refl _⟩, rfl, rfl⟩
    ⟨rfl, rfl, hr, rfl, rfl⟩
  have hl := lv_entry As (n := n) hn
  rw [lg_entry_eq]
  exact hg _ s.heap [] hl hP hD0.self va_S.rf
end
section
/-! rows of the calculus: an instruction each -/
theorem g_iconst {X : XX} {Z : ZZ} {cc : ByteArray} {n : Nat} {own : String} {l0 : Launch} {d : Nat} {ws : va_W} {pc : Nat} {lv : List (Nat × Value)} {st : List Value} (hX : Okk X Z cc n own l0 d) {k : Int} {v : Int32} (hd : decode cc pc = .ok (.iconst k, 1)) (hv : Int32.ofInt k = v) (kk : G X Z ws (pc + 1) lv (.int v :: st)) : G X Z ws pc lv st := by
  obtain ⟨p, l, e, R, s, m, args, below, meth, c, kc, ks, Q, nL, A⟩ := X
  obtain ⟨hx, hb, hml, hown, hts, hK, hA, hlk, hE, hAB, hzB, hR, rfl, rfl⟩ := hX
  intro ls H locs h hP hD hS
  exact lv_iconst hx hb hd hv (kk ls H locs h hP hD hS)
theorem g_bipush {X : XX} {Z : ZZ} {cc : ByteArray} {n : Nat} {own : String} {l0 : Launch} {d : Nat} {ws : va_W} {pc : Nat} {lv : List (Nat × Value)} {st : List Value} (hX : Okk X Z cc n own l0 d) {k : Int} {v : Int32} (hd : decode cc pc = .ok (.bipush k, 2)) (hv : (Int8.ofInt k).toInt32 = v) (kk : G X Z ws (pc + 2) lv (.int v :: st)) : G X Z ws pc lv st := by
  obtain ⟨p, l, e, R, s, m, args, below, meth, c, kc, ks, Q, nL, A⟩ := X
  obtain ⟨hx, hb, hml, hown, hts, hK, hA, hlk, hE, hAB, hzB, hR, rfl, rfl⟩ := hX
  intro ls H locs h hP hD hS
  exact lv_bipush hx hb hd hv (kk ls H locs h hP hD hS)
theorem g_sipush {X : XX} {Z : ZZ} {cc : ByteArray} {n : Nat} {own : String} {l0 : Launch} {d : Nat} {ws : va_W} {pc : Nat} {lv : List (Nat × Value)} {st : List Value} (hX : Okk X Z cc n own l0 d) {k : Int} {v : Int32} (hd : decode cc pc = .ok (.sipush k, 3)) (hv : (Int16.ofInt k).toInt32 = v) (kk : G X Z ws (pc + 3) lv (.int v :: st)) : G X Z ws pc lv st := by
  obtain ⟨p, l, e, R, s, m, args, below, meth, c, kc, ks, Q, nL, A⟩ := X
  obtain ⟨hx, hb, hml, hown, hts, hK, hA, hlk, hE, hAB, hzB, hR, rfl, rfl⟩ := hX
  intro ls H locs h hP hD hS
  exact lv_sipush hx hb hd hv (kk ls H locs h hP hD hS)
theorem g_ldc {X : XX} {Z : ZZ} {cc : ByteArray} {n : Nat} {own : String} {l0 : Launch} {d : Nat} {ws : va_W} {pc : Nat} {lv : List (Nat × Value)} {st : List Value} (hX : Okk X Z cc n own l0 d) {k : Nat} {v : Int32} (hd : decode cc pc = .ok (.ldc k, 2)) (hc : Jvm.Cond.constant own k v ∈ UW) (kk : G X Z ws (pc + 2) lv (.int v :: st)) : G X Z ws pc lv st := by
  obtain ⟨p, l, e, R, s, m, args, below, meth, c, kc, ks, Q, nL, A⟩ := X
  obtain ⟨hx, hb, hml, hown, hts, hK, hA, hlk, hE, hAB, hzB, hR, rfl, rfl⟩ := hX
  intro ls H locs h hP hD hS
  exact lv_ldc hx hb hown (hts _ hc) hd (kk ls H locs h hP hD hS)
theorem g_ldcw {X : XX} {Z : ZZ} {cc : ByteArray} {n : Nat} {own : String} {l0 : Launch} {d : Nat} {ws : va_W} {pc : Nat} {lv : List (Nat × Value)} {st : List Value} (hX : Okk X Z cc n own l0 d) {k : Nat} {v : Int32} (hd : decode cc pc = .ok (.ldc_w k, 3)) (hc : Jvm.Cond.constant own k v ∈ UW) (kk : G X Z ws (pc + 3) lv (.int v :: st)) : G X Z ws pc lv st := by
  obtain ⟨p, l, e, R, s, m, args, below, meth, c, kc, ks, Q, nL, A⟩ := X
  obtain ⟨hx, hb, hml, hown, hts, hK, hA, hlk, hE, hAB, hzB, hR, rfl, rfl⟩ := hX
  intro ls H locs h hP hD hS
  exact lv_ldcw hx hb hown (hts _ hc) hd (kk ls H locs h hP hD hS)
theorem g_iload_n {X : XX} {Z : ZZ} {cc : ByteArray} {n : Nat} {own : String} {l0 : Launch} {d : Nat} {ws : va_W} {pc : Nat} {lv : List (Nat × Value)} {st : List Value} (hX : Okk X Z cc n own l0 d) {k : Fin 4} {x : Int32} (hd : decode cc pc = .ok (.iload_n k, 1)) (j : Nat) (hl : lv[j]? = some (k.val, .int x)) (kk : G X Z ws (pc + 1) lv (.int x :: st)) : G X Z ws pc lv st := by
  obtain ⟨p, l, e, R, s, m, args, below, meth, c, kc, ks, Q, nL, A⟩ := X
  obtain ⟨hx, hb, hml, hown, hts, hK, hA, hlk, hE, hAB, hzB, hR, rfl, rfl⟩ := hX
  intro ls H locs h hP hD hS
  exact lv_iload_n hx hb hd rfl (lv_at h j hl) (kk ls H locs h hP hD hS)
theorem g_iload {X : XX} {Z : ZZ} {cc : ByteArray} {n : Nat} {own : String} {l0 : Launch} {d : Nat} {ws : va_W} {pc : Nat} {lv : List (Nat × Value)} {st : List Value} (hX : Okk X Z cc n own l0 d) {i : Nat} {x : Int32} (hd : decode cc pc = .ok (.iload i, 2)) (j : Nat) (hl : lv[j]? = some (i, .int x)) (kk : G X Z ws (pc + 2) lv (.int x :: st)) : G X Z ws pc lv st := by
  obtain ⟨p, l, e, R, s, m, args, below, meth, c, kc, ks, Q, nL, A⟩ := X
  obtain ⟨hx, hb, hml, hown, hts, hK, hA, hlk, hE, hAB, hzB, hR, rfl, rfl⟩ := hX
  intro ls H locs h hP hD hS
  exact lv_iload hx hb hd (lv_at h j hl) (kk ls H locs h hP hD hS)
theorem g_istore_n {X : XX} {Z : ZZ} {cc : ByteArray} {n : Nat} {own : String} {l0 : Launch} {d : Nat} {ws : va_W} {pc : Nat} {lv : List (Nat × Value)} {st : List Value} (hX : Okk X Z cc n own l0 d) {k : Fin 4} {x : Int32} {lv1 : List (Nat × Value)} (hd : decode cc pc = .ok (.istore_n k, 1)) (hn : k.val < n) (kp : List Nat) (hl : lv_pick ((k.val, .int x) :: lv.filter (fun q => !(q.1 == k.val) && !(q.1 + 1 == k.val && q.2.category == 2))) kp = lv1) (kk : G X Z ws (pc + 1) lv1 st) : G X Z ws pc lv (.int x :: st) := by
  obtain ⟨p, l, e, R, s, m, args, below, meth, c, kc, ks, Q, nL, A⟩ := X
  obtain ⟨hx, hb, hml, hown, hts, hK, hA, hlk, hE, hAB, hzB, hR, rfl, rfl⟩ := hX
  intro ls H locs h hP hD hS
  exact lv_istore_n hx hb hd rfl h hn rfl (fun ls1 h1 => kk ls1 H locs (lv_sub h1 kp hl) hP hD hS)
theorem g_istore {X : XX} {Z : ZZ} {cc : ByteArray} {n : Nat} {own : String} {l0 : Launch} {d : Nat} {ws : va_W} {pc : Nat} {lv : List (Nat × Value)} {st : List Value} (hX : Okk X Z cc n own l0 d) {i : Nat} {x : Int32} {lv1 : List (Nat × Value)} (hd : decode cc pc = .ok (.istore i, 2)) (hn : i < n) (kp : List Nat) (hl : lv_pick ((i, .int x) :: lv.filter (fun q => !(q.1 == i) && !(q.1 + 1 == i && q.2.category == 2))) kp = lv1) (kk : G X Z ws (pc + 2) lv1 st) : G X Z ws pc lv (.int x :: st) := by
  obtain ⟨p, l, e, R, s, m, args, below, meth, c, kc, ks, Q, nL, A⟩ := X
  obtain ⟨hx, hb, hml, hown, hts, hK, hA, hlk, hE, hAB, hzB, hR, rfl, rfl⟩ := hX
  intro ls H locs h hP hD hS
  exact lv_istore hx hb hd h hn rfl (fun ls1 h1 => kk ls1 H locs (lv_sub h1 kp hl) hP hD hS)
theorem g_aload_n {X : XX} {Z : ZZ} {cc : ByteArray} {n : Nat} {own : String} {l0 : Launch} {d : Nat} {ws : va_W} {pc : Nat} {lv : List (Nat × Value)} {st : List Value} (hX : Okk X Z cc n own l0 d) {k : Fin 4} {x : Nat} (hd : decode cc pc = .ok (.aload_n k, 1)) (j : Nat) (hl : lv[j]? = some (k.val, .ref x)) (kk : G X Z ws (pc + 1) lv (.ref x :: st)) : G X Z ws pc lv st := by
  obtain ⟨p, l, e, R, s, m, args, below, meth, c, kc, ks, Q, nL, A⟩ := X
  obtain ⟨hx, hb, hml, hown, hts, hK, hA, hlk, hE, hAB, hzB, hR, rfl, rfl⟩ := hX
  intro ls H locs h hP hD hS
  exact lv_aload_n hx hb hd rfl (lv_at h j hl) (kk ls H locs h hP hD hS)
theorem g_aload {X : XX} {Z : ZZ} {cc : ByteArray} {n : Nat} {own : String} {l0 : Launch} {d : Nat} {ws : va_W} {pc : Nat} {lv : List (Nat × Value)} {st : List Value} (hX : Okk X Z cc n own l0 d) {i : Nat} {x : Nat} (hd : decode cc pc = .ok (.aload i, 2)) (j : Nat) (hl : lv[j]? = some (i, .ref x)) (kk : G X Z ws (pc + 2) lv (.ref x :: st)) : G X Z ws pc lv st := by
  obtain ⟨p, l, e, R, s, m, args, below, meth, c, kc, ks, Q, nL, A⟩ := X
  obtain ⟨hx, hb, hml, hown, hts, hK, hA, hlk, hE, hAB, hzB, hR, rfl, rfl⟩ := hX
  intro ls H locs h hP hD hS
  exact lv_aload hx hb hd (lv_at h j hl) (kk ls H locs h hP hD hS)
theorem g_astore_n {X : XX} {Z : ZZ} {cc : ByteArray} {n : Nat} {own : String} {l0 : Launch} {d : Nat} {ws : va_W} {pc : Nat} {lv : List (Nat × Value)} {st : List Value} (hX : Okk X Z cc n own l0 d) {k : Fin 4} {x : Nat} {lv1 : List (Nat × Value)} (hd : decode cc pc = .ok (.astore_n k, 1)) (hn : k.val < n) (kp : List Nat) (hl : lv_pick ((k.val, .ref x) :: lv.filter (fun q => !(q.1 == k.val) && !(q.1 + 1 == k.val && q.2.category == 2))) kp = lv1) (kk : G X Z ws (pc + 1) lv1 st) : G X Z ws pc lv (.ref x :: st) := by
  obtain ⟨p, l, e, R, s, m, args, below, meth, c, kc, ks, Q, nL, A⟩ := X
  obtain ⟨hx, hb, hml, hown, hts, hK, hA, hlk, hE, hAB, hzB, hR, rfl, rfl⟩ := hX
  intro ls H locs h hP hD hS
  exact lv_astore_n hx hb hd rfl h hn rfl (fun ls1 h1 => kk ls1 H locs (lv_sub h1 kp hl) hP hD hS)
theorem g_astore {X : XX} {Z : ZZ} {cc : ByteArray} {n : Nat} {own : String} {l0 : Launch} {d : Nat} {ws : va_W} {pc : Nat} {lv : List (Nat × Value)} {st : List Value} (hX : Okk X Z cc n own l0 d) {i : Nat} {x : Nat} {lv1 : List (Nat × Value)} (hd : decode cc pc = .ok (.astore i, 2)) (hn : i < n) (kp : List Nat) (hl : lv_pick ((i, .ref x) :: lv.filter (fun q => !(q.1 == i) && !(q.1 + 1 == i && q.2.category == 2))) kp = lv1) (kk : G X Z ws (pc + 2) lv1 st) : G X Z ws pc lv (.ref x :: st) := by
  obtain ⟨p, l, e, R, s, m, args, below, meth, c, kc, ks, Q, nL, A⟩ := X
  obtain ⟨hx, hb, hml, hown, hts, hK, hA, hlk, hE, hAB, hzB, hR, rfl, rfl⟩ := hX
  intro ls H locs h hP hD hS
  exact lv_astore hx hb hd h hn rfl (fun ls1 h1 => kk ls1 H locs (lv_sub h1 kp hl) hP hD hS)
theorem g_iinc {X : XX} {Z : ZZ} {cc : ByteArray} {n : Nat} {own : String} {l0 : Launch} {d : Nat} {ws : va_W} {pc : Nat} {lv : List (Nat × Value)} {st : List Value} (hX : Okk X Z cc n own l0 d) {i : Nat} {k : Int} {x v : Int32} {lv1 : List (Nat × Value)} (hd : decode cc pc = .ok (.iinc i k, 3)) (j : Nat) (hj : lv[j]? = some (i, .int x)) (hv : x + Int32.ofInt k = v) (hn : i < n) (kp : List Nat) (hl : lv_pick ((i, .int v) :: lv.filter (fun q => !(q.1 == i) && !(q.1 + 1 == i && q.2.category == 2))) kp = lv1) (kk : G X Z ws (pc + 3) lv1 st) : G X Z ws pc lv st := by
  obtain ⟨p, l, e, R, s, m, args, below, meth, c, kc, ks, Q, nL, A⟩ := X
  obtain ⟨hx, hb, hml, hown, hts, hK, hA, hlk, hE, hAB, hzB, hR, rfl, rfl⟩ := hX
  intro ls H locs h hP hD hS
  exact lv_iinc hx hb hd h hj hv hn rfl (fun ls1 h1 => kk ls1 H locs (lv_sub h1 kp hl) hP hD hS)
theorem g_iadd {X : XX} {Z : ZZ} {cc : ByteArray} {n : Nat} {own : String} {l0 : Launch} {d : Nat} {ws : va_W} {pc : Nat} {lv : List (Nat × Value)} {st : List Value} (hX : Okk X Z cc n own l0 d) {x y z : Int32} (hd : decode cc pc = .ok (.iadd, 1)) (hz : x + y = z) (kk : G X Z ws (pc + 1) lv (.int z :: st)) : G X Z ws pc lv (.int y :: .int x :: st) := by
  obtain ⟨p, l, e, R, s, m, args, below, meth, c, kc, ks, Q, nL, A⟩ := X
  obtain ⟨hx, hb, hml, hown, hts, hK, hA, hlk, hE, hAB, hzB, hR, rfl, rfl⟩ := hX
  intro ls H locs h hP hD hS
  subst hz
  exact lv_iadd hx hb hd (kk ls H locs h hP hD hS)
theorem g_isub {X : XX} {Z : ZZ} {cc : ByteArray} {n : Nat} {own : String} {l0 : Launch} {d : Nat} {ws : va_W} {pc : Nat} {lv : List (Nat × Value)} {st : List Value} (hX : Okk X Z cc n own l0 d) {x y z : Int32} (hd : decode cc pc = .ok (.isub, 1)) (hz : x - y = z) (kk : G X Z ws (pc + 1) lv (.int z :: st)) : G X Z ws pc lv (.int y :: .int x :: st) := by
  obtain ⟨p, l, e, R, s, m, args, below, meth, c, kc, ks, Q, nL, A⟩ := X
  obtain ⟨hx, hb, hml, hown, hts, hK, hA, hlk, hE, hAB, hzB, hR, rfl, rfl⟩ := hX
  intro ls H locs h hP hD hS
  subst hz
  exact lv_isub hx hb hd (kk ls H locs h hP hD hS)
theorem g_imul {X : XX} {Z : ZZ} {cc : ByteArray} {n : Nat} {own : String} {l0 : Launch} {d : Nat} {ws : va_W} {pc : Nat} {lv : List (Nat × Value)} {st : List Value} (hX : Okk X Z cc n own l0 d) {x y z : Int32} (hd : decode cc pc = .ok (.imul, 1)) (hz : x * y = z) (kk : G X Z ws (pc + 1) lv (.int z :: st)) : G X Z ws pc lv (.int y :: .int x :: st) := by
  obtain ⟨p, l, e, R, s, m, args, below, meth, c, kc, ks, Q, nL, A⟩ := X
  obtain ⟨hx, hb, hml, hown, hts, hK, hA, hlk, hE, hAB, hzB, hR, rfl, rfl⟩ := hX
  intro ls H locs h hP hD hS
  subst hz
  exact lv_imul hx hb hd (kk ls H locs h hP hD hS)
theorem g_iand {X : XX} {Z : ZZ} {cc : ByteArray} {n : Nat} {own : String} {l0 : Launch} {d : Nat} {ws : va_W} {pc : Nat} {lv : List (Nat × Value)} {st : List Value} (hX : Okk X Z cc n own l0 d) {x y z : Int32} (hd : decode cc pc = .ok (.iand, 1)) (hz : x &&& y = z) (kk : G X Z ws (pc + 1) lv (.int z :: st)) : G X Z ws pc lv (.int y :: .int x :: st) := by
  obtain ⟨p, l, e, R, s, m, args, below, meth, c, kc, ks, Q, nL, A⟩ := X
  obtain ⟨hx, hb, hml, hown, hts, hK, hA, hlk, hE, hAB, hzB, hR, rfl, rfl⟩ := hX
  intro ls H locs h hP hD hS
  subst hz
  exact lv_iand hx hb hd (kk ls H locs h hP hD hS)
theorem g_ior {X : XX} {Z : ZZ} {cc : ByteArray} {n : Nat} {own : String} {l0 : Launch} {d : Nat} {ws : va_W} {pc : Nat} {lv : List (Nat × Value)} {st : List Value} (hX : Okk X Z cc n own l0 d) {x y z : Int32} (hd : decode cc pc = .ok (.ior, 1)) (hz : x ||| y = z) (kk : G X Z ws (pc + 1) lv (.int z :: st)) : G X Z ws pc lv (.int y :: .int x :: st) := by
  obtain ⟨p, l, e, R, s, m, args, below, meth, c, kc, ks, Q, nL, A⟩ := X
  obtain ⟨hx, hb, hml, hown, hts, hK, hA, hlk, hE, hAB, hzB, hR, rfl, rfl⟩ := hX
  intro ls H locs h hP hD hS
  subst hz
  exact lv_ior hx hb hd (kk ls H locs h hP hD hS)
theorem g_ixor {X : XX} {Z : ZZ} {cc : ByteArray} {n : Nat} {own : String} {l0 : Launch} {d : Nat} {ws : va_W} {pc : Nat} {lv : List (Nat × Value)} {st : List Value} (hX : Okk X Z cc n own l0 d) {x y z : Int32} (hd : decode cc pc = .ok (.ixor, 1)) (hz : x ^^^ y = z) (kk : G X Z ws (pc + 1) lv (.int z :: st)) : G X Z ws pc lv (.int y :: .int x :: st) := by
  obtain ⟨p, l, e, R, s, m, args, below, meth, c, kc, ks, Q, nL, A⟩ := X
  obtain ⟨hx, hb, hml, hown, hts, hK, hA, hlk, hE, hAB, hzB, hR, rfl, rfl⟩ := hX
  intro ls H locs h hP hD hS
  subst hz
  exact lv_ixor hx hb hd (kk ls H locs h hP hD hS)
theorem g_idiv {X : XX} {Z : ZZ} {cc : ByteArray} {n : Nat} {own : String} {l0 : Launch} {d : Nat} {ws : va_W} {pc : Nat} {lv : List (Nat × Value)} {st : List Value} (hX : Okk X Z cc n own l0 d) {x y z : Int32} (hd : decode cc pc = .ok (.idiv, 1)) (hne : ¬ y = 0) (hz : x / y = z) (kk : G X Z ws (pc + 1) lv (.int z :: st)) : G X Z ws pc lv (.int y :: .int x :: st) := by
  obtain ⟨p, l, e, R, s, m, args, below, meth, c, kc, ks, Q, nL, A⟩ := X
  obtain ⟨hx, hb, hml, hown, hts, hK, hA, hlk, hE, hAB, hzB, hR, rfl, rfl⟩ := hX
  intro ls H locs h hP hD hS
  subst hz
  exact lv_idiv hx hb hd hne (kk ls H locs h hP hD hS)
theorem g_irem {X : XX} {Z : ZZ} {cc : ByteArray} {n : Nat} {own : String} {l0 : Launch} {d : Nat} {ws : va_W} {pc : Nat} {lv : List (Nat × Value)} {st : List Value} (hX : Okk X Z cc n own l0 d) {x y z : Int32} (hd : decode cc pc = .ok (.irem, 1)) (hne : ¬ y = 0) (hz : x - x / y * y = z) (kk : G X Z ws (pc + 1) lv (.int z :: st)) : G X Z ws pc lv (.int y :: .int x :: st) := by
  obtain ⟨p, l, e, R, s, m, args, below, meth, c, kc, ks, Q, nL, A⟩ := X
  obtain ⟨hx, hb, hml, hown, hts, hK, hA, hlk, hE, hAB, hzB, hR, rfl, rfl⟩ := hX
  intro ls H locs h hP hD hS
  subst hz
  exact lv_irem hx hb hd hne (kk ls H locs h hP hD hS)
theorem g_ineg {X : XX} {Z : ZZ} {cc : ByteArray} {n : Nat} {own : String} {l0 : Launch} {d : Nat} {ws : va_W} {pc : Nat} {lv : List (Nat × Value)} {st : List Value} (hX : Okk X Z cc n own l0 d) {x z : Int32} (hd : decode cc pc = .ok (.ineg, 1)) (hz : -x = z) (kk : G X Z ws (pc + 1) lv (.int z :: st)) : G X Z ws pc lv (.int x :: st) := by
  obtain ⟨p, l, e, R, s, m, args, below, meth, c, kc, ks, Q, nL, A⟩ := X
  obtain ⟨hx, hb, hml, hown, hts, hK, hA, hlk, hE, hAB, hzB, hR, rfl, rfl⟩ := hX
  intro ls H locs h hP hD hS
  subst hz
  exact lv_ineg hx hb hd (kk ls H locs h hP hD hS)
theorem g_ishl {X : XX} {Z : ZZ} {cc : ByteArray} {n : Nat} {own : String} {l0 : Launch} {d : Nat} {ws : va_W} {pc : Nat} {lv : List (Nat × Value)} {st : List Value} (hX : Okk X Z cc n own l0 d) {x y z : Int32} (hd : decode cc pc = .ok (.ishl, 1)) (hz : x <<< (y &&& 31) = z) (kk : G X Z ws (pc + 1) lv (.int z :: st)) : G X Z ws pc lv (.int y :: .int x :: st) := by
  obtain ⟨p, l, e, R, s, m, args, below, meth, c, kc, ks, Q, nL, A⟩ := X
  obtain ⟨hx, hb, hml, hown, hts, hK, hA, hlk, hE, hAB, hzB, hR, rfl, rfl⟩ := hX
  intro ls H locs h hP hD hS
  subst hz
  exact lv_ishl hx hb hd (kk ls H locs h hP hD hS)
theorem g_ishr {X : XX} {Z : ZZ} {cc : ByteArray} {n : Nat} {own : String} {l0 : Launch} {d : Nat} {ws : va_W} {pc : Nat} {lv : List (Nat × Value)} {st : List Value} (hX : Okk X Z cc n own l0 d) {x y z : Int32} (hd : decode cc pc = .ok (.ishr, 1)) (hz : x >>> (y &&& 31) = z) (kk : G X Z ws (pc + 1) lv (.int z :: st)) : G X Z ws pc lv (.int y :: .int x :: st) := by
  obtain ⟨p, l, e, R, s, m, args, below, meth, c, kc, ks, Q, nL, A⟩ := X
  obtain ⟨hx, hb, hml, hown, hts, hK, hA, hlk, hE, hAB, hzB, hR, rfl, rfl⟩ := hX
  intro ls H locs h hP hD hS
  subst hz
  exact lv_ishr hx hb hd (kk ls H locs h hP hD hS)
theorem g_iushr {X : XX} {Z : ZZ} {cc : ByteArray} {n : Nat} {own : String} {l0 : Launch} {d : Nat} {ws : va_W} {pc : Nat} {lv : List (Nat × Value)} {st : List Value} (hX : Okk X Z cc n own l0 d) {x y z : Int32} (hd : decode cc pc = .ok (.iushr, 1)) (hz : (x.toUInt32 >>> (y.toUInt32 &&& Int32.toUInt32 31)).toInt32 = z) (kk : G X Z ws (pc + 1) lv (.int z :: st)) : G X Z ws pc lv (.int y :: .int x :: st) := by
  obtain ⟨p, l, e, R, s, m, args, below, meth, c, kc, ks, Q, nL, A⟩ := X
  obtain ⟨hx, hb, hml, hown, hts, hK, hA, hlk, hE, hAB, hzB, hR, rfl, rfl⟩ := hX
  intro ls H locs h hP hD hS
  exact lv_iushr hx hb hd hz (kk ls H locs h hP hD hS)
theorem g_i2c {X : XX} {Z : ZZ} {cc : ByteArray} {n : Nat} {own : String} {l0 : Launch} {d : Nat} {ws : va_W} {pc : Nat} {lv : List (Nat × Value)} {st : List Value} (hX : Okk X Z cc n own l0 d) {x z : Int32} (hd : decode cc pc = .ok (.i2c, 1)) (hz : (x.toUInt32 % 65536).toInt32 = z) (kk : G X Z ws (pc + 1) lv (.int z :: st)) : G X Z ws pc lv (.int x :: st) := by
  obtain ⟨p, l, e, R, s, m, args, below, meth, c, kc, ks, Q, nL, A⟩ := X
  obtain ⟨hx, hb, hml, hown, hts, hK, hA, hlk, hE, hAB, hzB, hR, rfl, rfl⟩ := hX
  intro ls H locs h hP hD hS
  exact lv_i2c hx hb hd hz (kk ls H locs h hP hD hS)
theorem g_i2b {X : XX} {Z : ZZ} {cc : ByteArray} {n : Nat} {own : String} {l0 : Launch} {d : Nat} {ws : va_W} {pc : Nat} {lv : List (Nat × Value)} {st : List Value} (hX : Okk X Z cc n own l0 d) {x z : Int32} (hd : decode cc pc = .ok (.i2b, 1)) (hz : x.toInt8.toInt32 = z) (kk : G X Z ws (pc + 1) lv (.int z :: st)) : G X Z ws pc lv (.int x :: st) := by
  obtain ⟨p, l, e, R, s, m, args, below, meth, c, kc, ks, Q, nL, A⟩ := X
  obtain ⟨hx, hb, hml, hown, hts, hK, hA, hlk, hE, hAB, hzB, hR, rfl, rfl⟩ := hX
  intro ls H locs h hP hD hS
  exact lv_i2b hx hb hd hz (kk ls H locs h hP hD hS)
theorem g_dup {X : XX} {Z : ZZ} {cc : ByteArray} {n : Nat} {own : String} {l0 : Launch} {d : Nat} {ws : va_W} {pc : Nat} {lv : List (Nat × Value)} {st : List Value} (hX : Okk X Z cc n own l0 d) {v : Value} (hd : decode cc pc = .ok (.dup, 1)) (hv : v.category = 1) (kk : G X Z ws (pc + 1) lv (v :: v :: st)) : G X Z ws pc lv (v :: st) := by
  obtain ⟨p, l, e, R, s, m, args, below, meth, c, kc, ks, Q, nL, A⟩ := X
  obtain ⟨hx, hb, hml, hown, hts, hK, hA, hlk, hE, hAB, hzB, hR, rfl, rfl⟩ := hX
  intro ls H locs h hP hD hS
  exact lv_dup hx hb hd hv (kk ls H locs h hP hD hS)
theorem g_pop {X : XX} {Z : ZZ} {cc : ByteArray} {n : Nat} {own : String} {l0 : Launch} {d : Nat} {ws : va_W} {pc : Nat} {lv : List (Nat × Value)} {st : List Value} (hX : Okk X Z cc n own l0 d) {v : Value} (hd : decode cc pc = .ok (.pop, 1)) (hv : v.category = 1) (kk : G X Z ws (pc + 1) lv st) : G X Z ws pc lv (v :: st) := by
  obtain ⟨p, l, e, R, s, m, args, below, meth, c, kc, ks, Q, nL, A⟩ := X
  obtain ⟨hx, hb, hml, hown, hts, hK, hA, hlk, hE, hAB, hzB, hR, rfl, rfl⟩ := hX
  intro ls H locs h hP hD hS
  exact lv_pop hx hb hd hv (kk ls H locs h hP hD hS)
theorem g_dup_x1 {X : XX} {Z : ZZ} {cc : ByteArray} {n : Nat} {own : String} {l0 : Launch} {d : Nat} {ws : va_W} {pc : Nat} {lv : List (Nat × Value)} {st : List Value} (hX : Okk X Z cc n own l0 d) {v w : Value} (hd : decode cc pc = .ok (.dup_x1, 1)) (hv : v.category = 1) (hw : w.category = 1) (kk : G X Z ws (pc + 1) lv (v :: w :: v :: st)) : G X Z ws pc lv (v :: w :: st) := by
  obtain ⟨p, l, e, R, s, m, args, below, meth, c, kc, ks, Q, nL, A⟩ := X
  obtain ⟨hx, hb, hml, hown, hts, hK, hA, hlk, hE, hAB, hzB, hR, rfl, rfl⟩ := hX
  intro ls H locs h hP hD hS
  exact lv_dup_x1 hx hb hd hv hw (kk ls H locs h hP hD hS)
theorem g_dup2 {X : XX} {Z : ZZ} {cc : ByteArray} {n : Nat} {own : String} {l0 : Launch} {d : Nat} {ws : va_W} {pc : Nat} {lv : List (Nat × Value)} {st : List Value} (hX : Okk X Z cc n own l0 d) {v w : Value} (hd : decode cc pc = .ok (.dup2, 1)) (hv : v.category = 1) (hw : w.category = 1) (kk : G X Z ws (pc + 1) lv (v :: w :: v :: w :: st)) : G X Z ws pc lv (v :: w :: st) := by
  obtain ⟨p, l, e, R, s, m, args, below, meth, c, kc, ks, Q, nL, A⟩ := X
  obtain ⟨hx, hb, hml, hown, hts, hK, hA, hlk, hE, hAB, hzB, hR, rfl, rfl⟩ := hX
  intro ls H locs h hP hD hS
  exact lv_dup2_11 hx hb hd hv hw (kk ls H locs h hP hD hS)
theorem g_if_eq {X : XX} {Z : ZZ} {cc : ByteArray} {n : Nat} {own : String} {l0 : Launch} {d : Nat} {ws : va_W} {pc : Nat} {lv : List (Nat × Value)} {st : List Value} (hX : Okk X Z cc n own l0 d) {x : Int32} {off : Int} (tgt : Nat) (hd : decode cc pc = .ok (.ifCond .eq off, 3)) (ht : (pc : Int) + off = (tgt : Int)) (kt : x = 0 → G X Z ws tgt lv st) (kf : ¬ x = 0 → G X Z ws (pc + 3) lv st) : G X Z ws pc lv (.int x :: st) := by
  obtain ⟨p, l, e, R, s, m, args, below, meth, c, kc, ks, Q, nL, A⟩ := X
  obtain ⟨hx, hb, hml, hown, hts, hK, hA, hlk, hE, hAB, hzB, hR, rfl, rfl⟩ := hX
  intro ls H locs h hP hD hS
  exact lv_if_eq hx hb hd ht (fun q => kt q ls H locs h hP hD hS) (fun q => kf q ls H locs h hP hD hS)
theorem g_icmp_eq {X : XX} {Z : ZZ} {cc : ByteArray} {n : Nat} {own : String} {l0 : Launch} {d : Nat} {ws : va_W} {pc : Nat} {lv : List (Nat × Value)} {st : List Value} (hX : Okk X Z cc n own l0 d) {x y : Int32} {off : Int} (tgt : Nat) (hd : decode cc pc = .ok (.if_icmp .eq off, 3)) (ht : (pc : Int) + off = (tgt : Int)) (kt : x = y → G X Z ws tgt lv st) (kf : ¬ x = y → G X Z ws (pc + 3) lv st) : G X Z ws pc lv (.int y :: .int x :: st) := by
  obtain ⟨p, l, e, R, s, m, args, below, meth, c, kc, ks, Q, nL, A⟩ := X
  obtain ⟨hx, hb, hml, hown, hts, hK, hA, hlk, hE, hAB, hzB, hR, rfl, rfl⟩ := hX
  intro ls H locs h hP hD hS
  exact lv_icmp_eq hx hb hd ht (fun q => kt q ls H locs h hP hD hS) (fun q => kf q ls H locs h hP hD hS)
theorem g_if_ne {X : XX} {Z : ZZ} {cc : ByteArray} {n : Nat} {own : String} {l0 : Launch} {d : Nat} {ws : va_W} {pc : Nat} {lv : List (Nat × Value)} {st : List Value} (hX : Okk X Z cc n own l0 d) {x : Int32} {off : Int} (tgt : Nat) (hd : decode cc pc = .ok (.ifCond .ne off, 3)) (ht : (pc : Int) + off = (tgt : Int)) (kt : ¬ x = 0 → G X Z ws tgt lv st) (kf : x = 0 → G X Z ws (pc + 3) lv st) : G X Z ws pc lv (.int x :: st) := by
  obtain ⟨p, l, e, R, s, m, args, below, meth, c, kc, ks, Q, nL, A⟩ := X
  obtain ⟨hx, hb, hml, hown, hts, hK, hA, hlk, hE, hAB, hzB, hR, rfl, rfl⟩ := hX
  intro ls H locs h hP hD hS
  exact lv_if_ne hx hb hd ht (fun q => kt q ls H locs h hP hD hS) (fun q => kf q ls H locs h hP hD hS)
theorem g_icmp_ne {X : XX} {Z : ZZ} {cc : ByteArray} {n : Nat} {own : String} {l0 : Launch} {d : Nat} {ws : va_W} {pc : Nat} {lv : List (Nat × Value)} {st : List Value} (hX : Okk X Z cc n own l0 d) {x y : Int32} {off : Int} (tgt : Nat) (hd : decode cc pc = .ok (.if_icmp .ne off, 3)) (ht : (pc : Int) + off = (tgt : Int)) (kt : ¬ x = y → G X Z ws tgt lv st) (kf : x = y → G X Z ws (pc + 3) lv st) : G X Z ws pc lv (.int y :: .int x :: st) := by
  obtain ⟨p, l, e, R, s, m, args, below, meth, c, kc, ks, Q, nL, A⟩ := X
  obtain ⟨hx, hb, hml, hown, hts, hK, hA, hlk, hE, hAB, hzB, hR, rfl, rfl⟩ := hX
  intro ls H locs h hP hD hS
  exact lv_icmp_ne hx hb hd ht (fun q => kt q ls H locs h hP hD hS) (fun q => kf q ls H locs h hP hD hS)
theorem g_if_lt {X : XX} {Z : ZZ} {cc : ByteArray} {n : Nat} {own : String} {l0 : Launch} {d : Nat} {ws : va_W} {pc : Nat} {lv : List (Nat × Value)} {st : List Value} (hX : Okk X Z cc n own l0 d) {x : Int32} {off : Int} (tgt : Nat) (hd : decode cc pc = .ok (.ifCond .lt off, 3)) (ht : (pc : Int) + off = (tgt : Int)) (kt : x < 0 → G X Z ws tgt lv st) (kf : ¬ x < 0 → G X Z ws (pc + 3) lv st) : G X Z ws pc lv (.int x :: st) := by
  obtain ⟨p, l, e, R, s, m, args, below, meth, c, kc, ks, Q, nL, A⟩ := X
  obtain ⟨hx, hb, hml, hown, hts, hK, hA, hlk, hE, hAB, hzB, hR, rfl, rfl⟩ := hX
  intro ls H locs h hP hD hS
  exact lv_if_lt hx hb hd ht (fun q => kt q ls H locs h hP hD hS) (fun q => kf q ls H locs h hP hD hS)
theorem g_icmp_lt {X : XX} {Z : ZZ} {cc : ByteArray} {n : Nat} {own : String} {l0 : Launch} {d : Nat} {ws : va_W} {pc : Nat} {lv : List (Nat × Value)} {st : List Value} (hX : Okk X Z cc n own l0 d) {x y : Int32} {off : Int} (tgt : Nat) (hd : decode cc pc = .ok (.if_icmp .lt off, 3)) (ht : (pc : Int) + off = (tgt : Int)) (kt : x < y → G X Z ws tgt lv st) (kf : ¬ x < y → G X Z ws (pc + 3) lv st) : G X Z ws pc lv (.int y :: .int x :: st) := by
  obtain ⟨p, l, e, R, s, m, args, below, meth, c, kc, ks, Q, nL, A⟩ := X
  obtain ⟨hx, hb, hml, hown, hts, hK, hA, hlk, hE, hAB, hzB, hR, rfl, rfl⟩ := hX
  intro ls H locs h hP hD hS
  exact lv_icmp_lt hx hb hd ht (fun q => kt q ls H locs h hP hD hS) (fun q => kf q ls H locs h hP hD hS)
theorem g_if_ge {X : XX} {Z : ZZ} {cc : ByteArray} {n : Nat} {own : String} {l0 : Launch} {d : Nat} {ws : va_W} {pc : Nat} {lv : List (Nat × Value)} {st : List Value} (hX : Okk X Z cc n own l0 d) {x : Int32} {off : Int} (tgt : Nat) (hd : decode cc pc = .ok (.ifCond .ge off, 3)) (ht : (pc : Int) + off = (tgt : Int)) (kt : 0 ≤ x → G X Z ws tgt lv st) (kf : ¬ 0 ≤ x → G X Z ws (pc + 3) lv st) : G X Z ws pc lv (.int x :: st) := by
  obtain ⟨p, l, e, R, s, m, args, below, meth, c, kc, ks, Q, nL, A⟩ := X
  obtain ⟨hx, hb, hml, hown, hts, hK, hA, hlk, hE, hAB, hzB, hR, rfl, rfl⟩ := hX
  intro ls H locs h hP hD hS
  exact lv_if_ge hx hb hd ht (fun q => kt q ls H locs h hP hD hS) (fun q => kf q ls H locs h hP hD hS)
theorem g_icmp_ge {X : XX} {Z : ZZ} {cc : ByteArray} {n : Nat} {own : String} {l0 : Launch} {d : Nat} {ws : va_W} {pc : Nat} {lv : List (Nat × Value)} {st : List Value} (hX : Okk X Z cc n own l0 d) {x y : Int32} {off : Int} (tgt : Nat) (hd : decode cc pc = .ok (.if_icmp .ge off, 3)) (ht : (pc : Int) + off = (tgt : Int)) (kt : y ≤ x → G X Z ws tgt lv st) (kf : ¬ y ≤ x → G X Z ws (pc + 3) lv st) : G X Z ws pc lv (.int y :: .int x :: st) := by
  obtain ⟨p, l, e, R, s, m, args, below, meth, c, kc, ks, Q, nL, A⟩ := X
  obtain ⟨hx, hb, hml, hown, hts, hK, hA, hlk, hE, hAB, hzB, hR, rfl, rfl⟩ := hX
  intro ls H locs h hP hD hS
  exact lv_icmp_ge hx hb hd ht (fun q => kt q ls H locs h hP hD hS) (fun q => kf q ls H locs h hP hD hS)
theorem g_if_gt {X : XX} {Z : ZZ} {cc : ByteArray} {n : Nat} {own : String} {l0 : Launch} {d : Nat} {ws : va_W} {pc : Nat} {lv : List (Nat × Value)} {st : List Value} (hX : Okk X Z cc n own l0 d) {x : Int32} {off : Int} (tgt : Nat) (hd : decode cc pc = .ok (.ifCond .gt off, 3)) (ht : (pc : Int) + off = (tgt : Int)) (kt : 0 < x → G X Z ws tgt lv st) (kf : ¬ 0 < x → G X Z ws (pc + 3) lv st) : G X Z ws pc lv (.int x :: st) := by
  obtain ⟨p, l, e, R, s, m, args, below, meth, c, kc, ks, Q, nL, A⟩ := X
  obtain ⟨hx, hb, hml, hown, hts, hK, hA, hlk, hE, hAB, hzB, hR, rfl, rfl⟩ := hX
  intro ls H locs h hP hD hS
  exact lv_if_gt hx hb hd ht (fun q => kt q ls H locs h hP hD hS) (fun q => kf q ls H locs h hP hD hS)
theorem g_icmp_gt {X : XX} {Z : ZZ} {cc : ByteArray} {n : Nat} {own : String} {l0 : Launch} {d : Nat} {ws : va_W} {pc : Nat} {lv : List (Nat × Value)} {st : List Value} (hX : Okk X Z cc n own l0 d) {x y : Int32} {off : Int} (tgt : Nat) (hd : decode cc pc = .ok (.if_icmp .gt off, 3)) (ht : (pc : Int) + off = (tgt : Int)) (kt : y < x → G X Z ws tgt lv st) (kf : ¬ y < x → G X Z ws (pc + 3) lv st) : G X Z ws pc lv (.int y :: .int x :: st) := by
  obtain ⟨p, l, e, R, s, m, args, below, meth, c, kc, ks, Q, nL, A⟩ := X
  obtain ⟨hx, hb, hml, hown, hts, hK, hA, hlk, hE, hAB, hzB, hR, rfl, rfl⟩ := hX
  intro ls H locs h hP hD hS
  exact lv_icmp_gt hx hb hd ht (fun q => kt q ls H locs h hP hD hS) (fun q => kf q ls H locs h hP hD hS)
theorem g_if_le {X : XX} {Z : ZZ} {cc : ByteArray} {n : Nat} {own : String} {l0 : Launch} {d : Nat} {ws : va_W} {pc : Nat} {lv : List (Nat × Value)} {st : List Value} (hX : Okk X Z cc n own l0 d) {x : Int32} {off : Int} (tgt : Nat) (hd : decode cc pc = .ok (.ifCond .le off, 3)) (ht : (pc : Int) + off = (tgt : Int)) (kt : x ≤ 0 → G X Z ws tgt lv st) (kf : ¬ x ≤ 0 → G X Z ws (pc + 3) lv st) : G X Z ws pc lv (.int x :: st) := by
  obtain ⟨p, l, e, R, s, m, args, below, meth, c, kc, ks, Q, nL, A⟩ := X
  obtain ⟨hx, hb, hml, hown, hts, hK, hA, hlk, hE, hAB, hzB, hR, rfl, rfl⟩ := hX
  intro ls H locs h hP hD hS
  exact lv_if_le hx hb hd ht (fun q => kt q ls H locs h hP hD hS) (fun q => kf q ls H locs h hP hD hS)
theorem g_icmp_le {X : XX} {Z : ZZ} {cc : ByteArray} {n : Nat} {own : String} {l0 : Launch} {d : Nat} {ws : va_W} {pc : Nat} {lv : List (Nat × Value)} {st : List Value} (hX : Okk X Z cc n own l0 d) {x y : Int32} {off : Int} (tgt : Nat) (hd : decode cc pc = .ok (.if_icmp .le off, 3)) (ht : (pc : Int) + off = (tgt : Int)) (kt : x ≤ y → G X Z ws tgt lv st) (kf : ¬ x ≤ y → G X Z ws (pc + 3) lv st) : G X Z ws pc lv (.int y :: .int x :: st) := by
  obtain ⟨p, l, e, R, s, m, args, below, meth, c, kc, ks, Q, nL, A⟩ := X
  obtain ⟨hx, hb, hml, hown, hts, hK, hA, hlk, hE, hAB, hzB, hR, rfl, rfl⟩ := hX
  intro ls H locs h hP hD hS
  exact lv_icmp_le hx hb hd ht (fun q => kt q ls H locs h hP hD hS) (fun q => kf q ls H locs h hP hD hS)
theorem g_goto {X : XX} {Z : ZZ} {cc : ByteArray} {n : Nat} {own : String} {l0 : Launch} {d : Nat} {ws : va_W} {pc : Nat} {lv : List (Nat × Value)} {st : List Value} (hX : Okk X Z cc n own l0 d) {off : Int} (tgt : Nat) (hd : decode cc pc = .ok (.goto off, 3)) (ht : (pc : Int) + off = (tgt : Int)) (kk : G X Z ws tgt lv st) : G X Z ws pc lv st := by
  obtain ⟨p, l, e, R, s, m, args, below, meth, c, kc, ks, Q, nL, A⟩ := X
  obtain ⟨hx, hb, hml, hown, hts, hK, hA, hlk, hE, hAB, hzB, hR, rfl, rfl⟩ := hX
  intro ls H locs h hP hD hS
  exact lv_goto hx hb hd ht (kk ls H locs h hP hD hS)
theorem g_tabOut {X : XX} {Z : ZZ} {cc : ByteArray} {n : Nat} {own : String} {l0 : Launch} {d : Nat} {ws : va_W} {pc : Nat} {lv : List (Nat × Value)} {st : List Value} (hX : Okk X Z cc n own l0 d) {dflt lo hi : Int} {offs : Array Int} {len : Nat} {x : Int32} (tgt : Nat) (hd : decode cc pc = .ok (.tableswitch dflt lo hi offs, len)) (hq : x.toInt < lo ∨ hi < x.toInt) (ht : (pc : Int) + dflt = (tgt : Int)) (kk : G X Z ws tgt lv st) : G X Z ws pc lv (.int x :: st) := by
  obtain ⟨p, l, e, R, s, m, args, below, meth, c, kc, ks, Q, nL, A⟩ := X
  obtain ⟨hx, hb, hml, hown, hts, hK, hA, hlk, hE, hAB, hzB, hR, rfl, rfl⟩ := hX
  intro ls H locs h hP hD hS
  exact lv_tableOut hx hb hd hq ht (kk ls H locs h hP hD hS)
theorem g_tabIn {X : XX} {Z : ZZ} {cc : ByteArray} {n : Nat} {own : String} {l0 : Launch} {d : Nat} {ws : va_W} {pc : Nat} {lv : List (Nat × Value)} {st : List Value} (hX : Okk X Z cc n own l0 d) {dflt lo hi : Int} {offs : Array Int} {len : Nat} {x : Int32} {off : Int} (tgt : Nat) (hd : decode cc pc = .ok (.tableswitch dflt lo hi offs, len)) (h1 : ¬ x.toInt < lo) (h2 : ¬ hi < x.toInt) (ho : offs[(x.toInt - lo).toNat]? = some off) (ht : (pc : Int) + off = (tgt : Int)) (kk : G X Z ws tgt lv st) : G X Z ws pc lv (.int x :: st) := by
  obtain ⟨p, l, e, R, s, m, args, below, meth, c, kc, ks, Q, nL, A⟩ := X
  obtain ⟨hx, hb, hml, hown, hts, hK, hA, hlk, hE, hAB, hzB, hR, rfl, rfl⟩ := hX
  intro ls H locs h hP hD hS
  exact lv_tableIn hx hb hd h1 h2 ho ht (kk ls H locs h hP hD hS)
theorem g_look {X : XX} {Z : ZZ} {cc : ByteArray} {n : Nat} {own : String} {l0 : Launch} {d : Nat} {ws : va_W} {pc : Nat} {lv : List (Nat × Value)} {st : List Value} (hX : Okk X Z cc n own l0 d) {dflt : Int} {ps : Array (Int × Int)} {len : Nat} {x : Int32} {off : Int} (tgt : Nat) (hd : decode cc pc = .ok (.lookupswitch dflt ps, len)) (hp : (ps.toList.zip (ps.toList.drop 1)).all (fun (a, next) => a.1 < next.1) = true) (ho : Op.lookupswitch.offset ps.toList dflt x.toInt = off) (ht : (pc : Int) + off = (tgt : Int)) (kk : G X Z ws tgt lv st) : G X Z ws pc lv (.int x :: st) := by
  obtain ⟨p, l, e, R, s, m, args, below, meth, c, kc, ks, Q, nL, A⟩ := X
  obtain ⟨hx, hb, hml, hown, hts, hK, hA, hlk, hE, hAB, hzB, hR, rfl, rfl⟩ := hX
  intro ls H locs h hP hD hS
  exact lv_lookup hx hb hd hp ho ht (kk ls H locs h hP hD hS)
theorem g_get {X : XX} {Z : ZZ} {cc : ByteArray} {n : Nat} {own : String} {l0 : Launch} {d : Nat} {ws : va_W} {pc : Nat} {lv : List (Nat × Value)} {st : List Value} (hX : Okk X Z cc n own l0 d) {a : Nat} {C ref : String} {T : u_T} {N ci idx : Nat} {fs : List Value} {v : Value} (q0 : Nat) (he : ws[q0]? = some (a, .inr (ci, fs))) (hc : classes[ci]? = some (C, T, N)) (k : Nat) (hk : k < N) (hu : ∀ w ∈ u_ws C T N, w ∈ UW) (hlink : Cond.fieldLink own idx ref (T k).2.1 (T k).2.2.1 ∈ UW) (hsame : (T k).1 = ref) (hv : fs[k]? = some v) (hd : decode cc pc = .ok (.getfield idx, 3)) (kk : G X Z ws (pc + 3) lv (v :: st)) : G X Z ws pc lv (.ref a :: st) := by
  obtain ⟨p, l, e, R, s, m, args, below, meth, c, kc, ks, Q, nL, A⟩ := X
  obtain ⟨hx, hb, hml, hown, hts, hK, hA, hlk, hE, hAB, hzB, hR, rfl, rfl⟩ := hX
  intro ls H locs h hP hD hS
  subst hsame
  exact va_get (D := zD Z) (cl := classes) hx hb hts hu hown hK hP q0 he hc k hk (hts _ hlink) (fun _ q => q) hv hd (kk ls H locs h hP hD hS)
theorem g_put {X : XX} {Z : ZZ} {cc : ByteArray} {n : Nat} {own : String} {l0 : Launch} {d : Nat} {ws : va_W} {pc : Nat} {lv : List (Nat × Value)} {st : List Value} (hX : Okk X Z cc n own l0 d) {a : Nat} {C ref : String} {T : u_T} {N ci idx : Nat} {fs : List Value} {v : Value} {ty : FieldType} {ws1 : va_W} (q0 : Nat) (he : ws[q0]? = some (a, .inr (ci, fs))) (hc : classes[ci]? = some (C, T, N)) (k : Nat) (hk : k < N) (hu : ∀ w ∈ u_ws C T N, w ∈ UW) (ty0 : Nat → FieldType) (hty : ∀ k, k < N → parseFieldDescriptor (T k).2.2.1 = some (ty0 k)) (hnm : ∀ a, a < N → ∀ b, b < N → a ≠ b → (T a).2.1 ≠ (T b).2.1) (hlink : Cond.fieldLink own idx ref (T k).2.1 (T k).2.2.1 ∈ UW) (hsame : (T k).1 = ref) (hfin : (T k).2.2.2 = false) (hty1 : parseFieldDescriptor (T k).2.2.1 = some ty) (hn : narrow ty v = v) (hfit : fits ty v = true) (hl : k < fs.length) (hd : decode cc pc = .ok (.putfield idx, 3)) (hw : ws.set q0 (a, .inr (ci, fs.set k v)) = ws1) (kk : G X Z ws1 (pc + 3) lv st) : G X Z ws pc lv (v :: .ref a :: st) := by
  obtain ⟨p, l, e, R, s, m, args, below, meth, c, kc, ks, Q, nL, A⟩ := X
  obtain ⟨hx, hb, hml, hown, hts, hK, hA, hlk, hE, hAB, hzB, hR, rfl, rfl⟩ := hX
  intro ls H locs h hP hD hS
  subst hsame hw
  exact va_put (D := zD Z) (cl := classes) hx hb hts hu ty0 hty hnm hown hK hP hD hS q0 he hc k hk (hts _ hlink) (fun _ q => q) hfin hty1 hn hfit hl hd (fun H1 locs1 hP1 hD1 hS1 => kk ls H1 locs1 h hP1 hD1 hS1)
theorem g_ald {X : XX} {Z : ZZ} {cc : ByteArray} {n : Nat} {own : String} {l0 : Launch} {d : Nat} {ws : va_W} {pc : Nat} {lv : List (Nat × Value)} {st : List Value} (hX : Okk X Z cc n own l0 d) {a N : Nat} {f : Nat → Int32} {i : Int32} {v : Int32} (q0 : Nat) (ha : ws[q0]? = some (a, .inl (zI Z, N, .inl f))) (j : Nat) (hj : j < N) (hN : N < 2 ^ 31) (hi : i = nI j) (hv : f j = v) (hd : decode cc pc = .ok (.iaload, 1)) (kk : G X Z ws (pc + 1) lv (.int v :: st)) : G X Z ws pc lv (.int i :: .ref a :: st) := by
  obtain ⟨p, l, e, R, s, m, args, below, meth, c, kc, ks, Q, nL, A⟩ := X
  obtain ⟨hx, hb, hml, hown, hts, hK, hA, hlk, hE, hAB, hzB, hR, rfl, rfl⟩ := hX
  intro ls H locs h hP hD hS
  subst hi hv
  have kk1 := kk ls H locs h hP hD hS
  have e1 := nI_clamp (n := j) (by omega)
  exact va_iald (D := zD Z) (cl := classes) hx hb hK hP q0 0 ha rfl (vp_in_nI hj hN) hd (by rw [e1]; exact kk1)
theorem g_aldR {X : XX} {Z : ZZ} {cc : ByteArray} {n : Nat} {own : String} {l0 : Launch} {d : Nat} {ws : va_W} {pc : Nat} {lv : List (Nat × Value)} {st : List Value} (hX : Okk X Z cc n own l0 d) {a N : Nat} {f : Nat → Int32} {i : Int32} (q0 : Nat) (ha : ws[q0]? = some (a, .inl (zI Z, N, .inl f))) (hi : vp_in i N) (hd : decode cc pc = .ok (.iaload, 1)) (kk : G X Z ws (pc + 1) lv (.int (f i.toNatClampNeg) :: st)) : G X Z ws pc lv (.int i :: .ref a :: st) := by
  obtain ⟨p, l, e, R, s, m, args, below, meth, c, kc, ks, Q, nL, A⟩ := X
  obtain ⟨hx, hb, hml, hown, hts, hK, hA, hlk, hE, hAB, hzB, hR, rfl, rfl⟩ := hX
  intro ls H locs h hP hD hS
  exact va_iald (D := zD Z) (cl := classes) hx hb hK hP q0 0 ha rfl hi hd (kk ls H locs h hP hD hS)
theorem g_ast {X : XX} {Z : ZZ} {cc : ByteArray} {n : Nat} {own : String} {l0 : Launch} {d : Nat} {ws : va_W} {pc : Nat} {lv : List (Nat × Value)} {st : List Value} (hX : Okk X Z cc n own l0 d) {a N : Nat} {f : Nat → Int32} {i x : Int32} {ws1 : va_W} (q0 : Nat) (ha : ws[q0]? = some (a, .inl (zI Z, N, .inl f))) (j : Nat) (hj : j < N) (hN : N < 2 ^ 31) (hi : i = nI j) (hd : decode cc pc = .ok (.iastore, 1)) (hw : ws.set q0 (a, .inl (zI Z, N, .inl (upd f j x))) = ws1) (kk : G X Z ws1 (pc + 1) lv st) : G X Z ws pc lv (.int x :: .int i :: .ref a :: st) := by
  obtain ⟨p, l, e, R, s, m, args, below, meth, c, kc, ks, Q, nL, A⟩ := X
  obtain ⟨hx, hb, hml, hown, hts, hK, hA, hlk, hE, hAB, hzB, hR, rfl, rfl⟩ := hX
  intro ls H locs h hP hD hS
  subst hi hw
  have e1 := nI_clamp (n := j) (by omega)
  refine va_iast (D := zD Z) (cl := classes) hx hb hK hP hD hS q0 0 ha rfl (vp_in_nI hj hN) hd (fun H1 locs1 hP1 hD1 hS1 => ?_)
  rw [e1] at hP1 hD1
  exact kk ls H1 locs1 h hP1 hD1 hS1
theorem g_alen {X : XX} {Z : ZZ} {cc : ByteArray} {n : Nat} {own : String} {l0 : Launch} {d : Nat} {ws : va_W} {pc : Nat} {lv : List (Nat × Value)} {st : List Value} (hX : Okk X Z cc n own l0 d) {a : Nat} {cA : ClassId} {x : vp_A} {ty : FieldType} {v : Int32} (q0 t0 : Nat) (ha : ws[q0]? = some (a, .inl (cA, x))) (ht : (tys Z)[t0]? = some (cA, ty)) (hv : Int32.ofNat x.1 = v) (hd : decode cc pc = .ok (.arraylength, 1)) (kk : G X Z ws (pc + 1) lv (.int v :: st)) : G X Z ws pc lv (.ref a :: st) := by
  obtain ⟨p, l, e, R, s, m, args, below, meth, c, kc, ks, Q, nL, A⟩ := X
  obtain ⟨hx, hb, hml, hown, hts, hK, hA, hlk, hE, hAB, hzB, hR, rfl, rfl⟩ := hX
  intro ls H locs h hP hD hS
  exact va_alen (D := zD Z) (cl := classes) hx hb hK hP q0 t0 ha ht hv hd (kk ls H locs h hP hD hS)
theorem g_mmax {X : XX} {Z : ZZ} {cc : ByteArray} {n : Nat} {own : String} {l0 : Launch} {d : Nat} {ws : va_W} {pc : Nat} {lv : List (Nat × Value)} {st : List Value} (hX : Okk X Z cc n own l0 d) {x y z : Int32} {idx : Nat} (hlink : Cond.methodLink own idx Lib.Math.max.name ∈ UW) (hst : Cond.static Lib.Math.max.name ∈ UW) (hini : Cond.initialized "java/lang/Math" ∈ UW) (hcode : Cond.code Lib.Math.max.name Lib.Math.max.code 2 (some .int) ∈ UW) (hd : decode cc pc = .ok (.invokestatic idx, 3)) (hdep : 1 ≤ d) (hcat : (st.map fun v => v.category).sum + 13 ≤ 37) (hz : (if x < y then y else x) = z) (kk : G X Z ws (pc + 3) lv (.int z :: st)) : G X Z ws pc lv (.int y :: .int x :: st) := by
  obtain ⟨p, l, e, R, s, m, args, below, meth, c, kc, ks, Q, nL, A⟩ := X
  obtain ⟨hx, hb, hml, hown, hts, hK, hA, hlk, hE, hAB, hzB, hR, rfl, rfl⟩ := hX
  intro ls H locs h hP hD hS
  subst hz
  exact va_mmax hx hb (hml.trans h.1.symm) hown (hts _ hlink) (hts _ hst) (hts _ hini) (hts _ hcode) (by omega) (by omega) hR.1 hR.2.1 hd (kk ls H locs h hP hD hS)
theorem g_mmin {X : XX} {Z : ZZ} {cc : ByteArray} {n : Nat} {own : String} {l0 : Launch} {d : Nat} {ws : va_W} {pc : Nat} {lv : List (Nat × Value)} {st : List Value} (hX : Okk X Z cc n own l0 d) {x y z : Int32} {idx : Nat} (hlink : Cond.methodLink own idx Lib.Math.min.name ∈ UW) (hst : Cond.static Lib.Math.min.name ∈ UW) (hini : Cond.initialized "java/lang/Math" ∈ UW) (hcode : Cond.code Lib.Math.min.name Lib.Math.min.code 2 (some .int) ∈ UW) (hd : decode cc pc = .ok (.invokestatic idx, 3)) (hdep : 1 ≤ d) (hcat : (st.map fun v => v.category).sum + 13 ≤ 37) (hz : (if y < x then y else x) = z) (kk : G X Z ws (pc + 3) lv (.int z :: st)) : G X Z ws pc lv (.int y :: .int x :: st) := by
  obtain ⟨p, l, e, R, s, m, args, below, meth, c, kc, ks, Q, nL, A⟩ := X
  obtain ⟨hx, hb, hml, hown, hts, hK, hA, hlk, hE, hAB, hzB, hR, rfl, rfl⟩ := hX
  intro ls H locs h hP hD hS
  subst hz
  exact va_mmin hx hb (hml.trans h.1.symm) hown (hts _ hlink) (hts _ hst) (hts _ hini) (hts _ hcode) (by omega) (by omega) hR.1 hR.2.1 hd (kk ls H locs h hP hD hS)
theorem g_copy {X : XX} {Z : ZZ} {cc : ByteArray} {n : Nat} {own : String} {l0 : Launch} {d : Nat} {ws : va_W} {pc : Nat} {lv : List (Nat × Value)} {st : List Value} (hX : Okk X Z cc n own l0 d) {a a0 n0 n1 : Nat} {f g : Nat → Int32} {sp dp k : Int32} {idx : Nat} {ws1 : va_W} (q0 q1 : Nat) (ha0 : ws[q0]? = some (a0, .inl (zI Z, n0, .inl f))) (ha1 : ws[q1]? = some (a, .inl (zI Z, n1, .inl g))) (hlink : Cond.methodLink own idx arraycopyName ∈ UW) (hnat : Cond.native arraycopyName ∈ UW) (hst : Cond.static arraycopyName ∈ UW) (hini : Cond.initialized "java/lang/System" ∈ UW) (h1 : ¬ sp < 0) (h2 : ¬ dp < 0) (h3 : ¬ k < 0) (h4 : sp.toNatClampNeg + k.toNatClampNeg ≤ n0) (h5 : dp.toNatClampNeg + k.toNatClampNeg ≤ n1) (hdep : 1 ≤ d) (hcat : (st.map fun v => v.category).sum + (nativeFrameWords "java/lang/System" "arraycopy" 5 + 11) ≤ 37) (hd : decode cc pc = .ok (.invokestatic idx, 3)) (hw : ws.set q1 (a, .inl (zI Z, n1, .inl (va_cpy f g sp.toNatClampNeg dp.toNatClampNeg k.toNatClampNeg))) = ws1) (kk : G X Z ws1 (pc + 3) lv st) : G X Z ws pc lv (.int k :: .int dp :: .ref a :: .int sp :: .ref a0 :: st) := by
  obtain ⟨p, l, e, R, s, m, args, below, meth, c, kc, ks, Q, nL, A⟩ := X
  obtain ⟨hx, hb, hml, hown, hts, hK, hA, hlk, hE, hAB, hzB, hR, rfl, rfl⟩ := hX
  intro ls H locs h hP hD hS
  subst hw
  exact va_copyi (D := zD Z) (cl := classes) hx hb (hml.trans h.1.symm) hown (hts _ hlink) (hts _ hnat) (hts _ hst) (hts _ hini) hK hP hD hS q0 q1 0 0 ha0 ha1 rfl rfl rfl h1 h2 h3 h4 h5 (fun _ _ => rfl) (by omega) (by omega) hd (fun H1 locs1 hP1 hD1 hS1 => kk ls H1 locs1 h hP1 hD1 hS1)
theorem g_top {X : XX} {Z : ZZ} {ws : va_W} {pc : Nat} {lv : List (Nat × Value)} {st : List Value} {x y : Int32} (e : x = y) (kk : G X Z ws pc lv (.int y :: st)) : G X Z ws pc lv (.int x :: st) := by rw [e]; exact kk
theorem g_eq {X : XX} {Z : ZZ} {ws ws1 : va_W} {pc : Nat} {lv lv1 : List (Nat × Value)} {st st1 : List Value} (e1 : ws = ws1) (e2 : lv = lv1) (e3 : st = st1) (kk : G X Z ws1 pc lv1 st1) : G X Z ws pc lv st := by rw [e1, e2, e3]; exact kk
/-- another picture of the same cells -/
def Same (Z : ZZ) (ws ws1 : va_W) : Prop := ws1.map (·.1) = ws.map (·.1) ∧ ∀ H : Heap, va_P (zD Z) classes ws H → va_P (zD Z) classes ws1 H
theorem g_same {X : XX} {Z : ZZ} {ws ws1 : va_W} {pc : Nat} {lv : List (Nat × Value)} {st : List Value} (hs : Same Z ws ws1) (kk : G X Z ws1 pc lv st) : G X Z ws pc lv st := by
  obtain ⟨p, l, e, R, s, m, args, below, meth, c, kc, ks, Q, nL, A⟩ := X
  intro ls H locs h hP hD hS
  exact kk ls H locs h (hs.2 H hP) (va_D_keys hs.1 hD) hS
theorem g_lv {X : XX} {Z : ZZ} {ws : va_W} {pc : Nat} {lv lv1 : List (Nat × Value)} {st : List Value} (kp : List Nat) (hl : lv_pick lv kp = lv1) (kk : G X Z ws pc lv1 st) : G X Z ws pc lv st := by
  obtain ⟨p, l, e, R, s, m, args, below, meth, c, kc, ks0, Q, nL, A⟩ := X
  intro ls H locs h hP hD hS
  exact kk ls H locs (lv_sub h kp hl) hP hD hS
theorem g_iret {X : XX} {Z : ZZ} {cc : ByteArray} {n : Nat} {own : String} {l0 : Launch} {d : Nat} {ws : va_W} {pc : Nat} {lv : List (Nat × Value)} {st : List Value} (hX : Okk X Z cc n own l0 d) {ws0 : va_W} {Post : Option Value → va_W → Prop} (hQ : Ret X Z ws0 Post (some .int)) {v : Int32} (hd : decode cc pc = .ok (.ireturn, 1)) (hk : ws.map (·.1) = ws0.map (·.1)) (hp : Post (some (.int v)) ws) : G X Z ws pc lv [.int v] := by
  obtain ⟨p, l, e, R, s, m, args, below, meth, c, kc, ks, Q, nL, A⟩ := X
  obtain ⟨hx, hb, hml, hown, hts, hK, hA, hlk, hE, hAB, hzB, hR, rfl, rfl⟩ := hX
  obtain ⟨rfl, rfl, hr, rfl, rfl⟩ := hQ
  intro ls H locs h hP hD hS
  exact W.iret hx hb hr (fun t ht hW => ⟨⟨_, ws, rfl, hp, hk, by rw [ht]; exact hP⟩, hS.F ht⟩) hS.2.2 hd hlk
theorem g_zret {X : XX} {Z : ZZ} {cc : ByteArray} {n : Nat} {own : String} {l0 : Launch} {d : Nat} {ws : va_W} {pc : Nat} {lv : List (Nat × Value)} {st : List Value} (hX : Okk X Z cc n own l0 d) {ws0 : va_W} {Post : Option Value → va_W → Prop} {ty : FieldType} (hQ : Ret X Z ws0 Post (some ty)) {v : Int32} (hn : narrow ty (.int v) = .int v) (hd : decode cc pc = .ok (.ireturn, 1)) (hk : ws.map (·.1) = ws0.map (·.1)) (hp : Post (some (.int v)) ws) : G X Z ws pc lv [.int v] := by
  obtain ⟨p, l, e, R, s, m, args, below, meth, c, kc, ks, Q, nL, A⟩ := X
  obtain ⟨hx, hb, hml, hown, hts, hK, hA, hlk, hE, hAB, hzB, hR, rfl, rfl⟩ := hX
  obtain ⟨rfl, rfl, hr, rfl, rfl⟩ := hQ
  intro ls H locs h hP hD hS
  exact W.zret hx hb hr hn (fun t ht hW => ⟨⟨_, ws, rfl, hp, hk, by rw [ht]; exact hP⟩, hS.F ht⟩) hS.2.2 hd hlk
theorem g_vret {X : XX} {Z : ZZ} {cc : ByteArray} {n : Nat} {own : String} {l0 : Launch} {d : Nat} {ws : va_W} {pc : Nat} {lv : List (Nat × Value)} {st : List Value} (hX : Okk X Z cc n own l0 d) {ws0 : va_W} {Post : Option Value → va_W → Prop} (hQ : Ret X Z ws0 Post none) (hd : decode cc pc = .ok (.return_, 1)) (hk : ws.map (·.1) = ws0.map (·.1)) (hp : Post none ws) : G X Z ws pc lv [] := by
  obtain ⟨p, l, e, R, s, m, args, below, meth, c, kc, ks, Q, nL, A⟩ := X
  obtain ⟨hx, hb, hml, hown, hts, hK, hA, hlk, hE, hAB, hzB, hR, rfl, rfl⟩ := hX
  obtain ⟨rfl, rfl, hr, rfl, rfl⟩ := hQ
  intro ls H locs h hP hD hS
  exact W.vret hx hb hr (fun t ht hW => ⟨⟨_, ws, rfl, hp, hk, by rw [ht]; exact hP⟩, hS.F ht⟩) hS.2.2 hd hlk
theorem g_callC {X : XX} {Z : ZZ} {cc : ByteArray} {n : Nat} {own : String} {l0 : Launch} {d : Nat} {ws wc : va_W} {pc : Nat} {lv : List (Nat × Value)} {st st0 : List Value} (hX : Okk X Z cc n own l0 d) {Post : Option Value → va_W → Prop} (is : List Nat) (hnd : va_nd is = true) (hC : is.map (fun i => ws[i]?) = wc.map some) (kk : ∀ (v : Option Value) (wc1 : va_W), Post v wc1 → G X Z (putW ws is wc1) (pc + 3) lv (v.toList ++ st))
    (hr : match X with | (p, l, e, R, s, m, args, below, meth, c, kc, ks, Q, nL, A) => ∀ (ls : Array Slot) (H : Heap) (locs : List Loc), lv_has ls nL lv → va_P (zD Z) classes ws H → va_P (zD Z) classes wc H → va_D A wc → s.heap.size ≤ H.size → (∀ U : State, U.heap = H → s.WarmedH U.vm → EN Z U H) → ∃ a : Array Value, va_Run p l e R s m args below meth c H locs kc ks 0 0 (F0 m pc ls st0) st (QcZ Z wc H.size Post a) (va_A wc H.size)) : G X Z ws pc lv st0 := by
  obtain ⟨p, l, e, R, s, m, args, below, meth, c, kc, ks, Q, nL, A⟩ := X
  obtain ⟨hx, hb, hml, hown, hts, hK, hA, hlk, hE, hAB, hzB, hR, rfl, rfl⟩ := hX
  intro ls H locs h hP hD hS
  have hPc : va_P (zD Z) classes wc H := by
    intro k q hq
    have h1 : (is.map (fun i => ws[i]?))[k]? = some (some q) := by rw [hC, List.getElem?_map, hq]; rfl
    rw [List.getElem?_map] at h1
    cases hi : is[k]? with
    | none => rw [hi] at h1; cases h1
    | some i => rw [hi] at h1; exact hP i q (Option.some.inj h1)
  have at' : ∀ (k : Nat) (q : Nat × va_E), wc[k]? = some q → ∃ i : Nat, is[k]? = some i ∧ ws[i]? = some q := by
    intro k q hq
    have h1 : (is.map (fun i => ws[i]?))[k]? = some (some q) := by rw [hC, List.getElem?_map, hq]; rfl
    rw [List.getElem?_map] at h1
    cases hi : is[k]? with
    | none => rw [hi] at h1; cases h1
    | some i => rw [hi] at h1; exact ⟨i, rfl, Option.some.inj h1⟩
  have hF := va_free (wc := wc) hD hS hA is hC
  have hDn : ∀ (i : Nat), i ∈ is → ∃ (k : Nat) (q : Nat × va_E), wc[k]? = some q ∧ ws[i]? = some q := by
    intro i hi
    obtain ⟨k, hk⟩ := List.getElem?_of_mem hi
    have h1 : (wc.map some)[k]? = some (ws[i]?) := by rw [← hC, List.getElem?_map, hk]; rfl
    rw [List.getElem?_map] at h1
    cases hw : wc[k]? with
    | none => rw [hw] at h1; cases h1
    | some q => rw [hw] at h1; exact ⟨k, q, hw, (Option.some.inj h1).symm⟩
  have hEH : EN Z s H := hE.kept (fun a ha hna => hS.2.1 a ha (fun z => hna (hAB a z)))
  have hnd := va_nd_inj is hnd
  · have hDc : va_D A wc := by
      refine ⟨fun i j x y hi hj hxy => ?_, fun k q hq => ?_⟩
      · obtain ⟨a1, b1, b2⟩ := at' i x hi
        obtain ⟨a2, b3, b4⟩ := at' j y hj
        have := hD.1 a1 a2 x y b2 b4 hxy
        subst this
        exact hnd i j a1 b1 b3
      · obtain ⟨a1, b1, b2⟩ := at' k q hq
        exact hD.2 a1 q b2
    intro T hT Xs
    obtain ⟨a, hr⟩ := hr ls H locs h hP hPc hDc hS.1 (fun U hU hW => hEH.warm hW)
    obtain ⟨v, st₀, t, T', L, h0, X', hL, e1, e2, ⟨⟨v1, wc1, hv, hpost, hkeys, hP1⟩, hz, hk⟩, hst⟩ := hr T hT Xs
    cases hv
    rw [h0] at hz hk
    have hlen : is.length = wc1.length := by
      have h1 : is.length = wc.length := by
        have := congrArg List.length hC
        simpa using this
      have h2 : wc1.length = wc.length := by
        have := congrArg List.length hkeys
        simpa using this
      omega
    have hPn : va_P (zD Z) classes (putW ws is wc1) T'.heap := by
      refine putW_P is ws wc1 hlen (fun k q hq hki => ?_) (by rw [e1]; exact hP1)
      have hlt : q.1 < H.size := (hP k q hq).lt
      refine (hP k q hq).kept ?_
      rw [e1]
      refine hk q.1 hlt (fun z => ?_)
      rcases z with ⟨j, e9, hj⟩ | z
      · obtain ⟨i, b1, b2⟩ := at' j (q.1, e9) hj
        have := hD.1 k i q (q.1, e9) hq b2 rfl
        subst this
        exact hki (List.mem_of_getElem? b1)
      · omega
    have hkn : (putW ws is wc1).map (·.1) = ws.map (·.1) := by
      refine putW_keys is ws wc1 ?_
      have h1 : is.map (fun i => (ws.map (·.1))[i]?) = (is.map (fun i => ws[i]?)).map (Option.map (·.1)) := by
        rw [List.map_map]
        apply List.map_congr_left
        intro i _
        rw [List.getElem?_map]
        rfl
      rw [h1, hC, List.map_map]
      have h2 : wc1.map (fun q => some q.1) = (wc1.map (·.1)).map some := by rw [List.map_map]; rfl
      rw [h2, hkeys, List.map_map]
      rfl
    obtain ⟨t2, a1, b1⟩ := kk v wc1 hpost ls T'.heap (locs ++ L) h hPn (va_D_keys hkn hD)
      ⟨Nat.le_trans hS.1 (by rw [e1]; exact hz), fun q h1 h2 => by rw [e1, hk q (Nat.lt_of_lt_of_le h1 hS.1) (fun z => h2 (hF q z))]; exact hS.2.1 q h1 h2, fun q hq => by
        rcases List.mem_append.mp hq with h | h
        · exact hS.2.2 q h
        · exact hF _ (hL q h)⟩ T' rfl X'
    exact ⟨t2, hst t2 a1, b1⟩
end
section
/-! calls: what a method's words say, and a row a kind of call -/
def MV (y : MethodName) (b : ByteArray) (n : Nat) (ret : Option FieldType) (k : Nat) : Prop := Cond.instanceMethod y ∈ UW ∧ Cond.selects y.cls y y ∈ UW ∧ Cond.initialized y.cls ∈ UW ∧ Cond.code y b n ret ∈ UW ∧ (y.cls ≠ "java/lang/invoke/MethodHandle" ∧ y.cls ≠ "java/lang/invoke/VarHandle" ∧ (parseMethodDescriptor y.desc).map (fun d => d.parameters.length) = some k) ∧ n ≤ 18
def MS (y : MethodName) (b : ByteArray) (n : Nat) (ret : Option FieldType) (k : Nat) : Prop := Cond.static y ∈ UW ∧ Cond.initialized y.cls ∈ UW ∧ Cond.code y b n ret ∈ UW ∧ (y.cls ≠ "java/lang/invoke/MethodHandle" ∧ y.cls ≠ "java/lang/invoke/VarHandle" ∧ (parseMethodDescriptor y.desc).map (fun d => d.parameters.length) = some k) ∧ n ≤ 18
/-- the end of a call that answers so, and leaves the cells so -/
def Fn (v : Option Value) (ws1 : va_W) : Option Value → va_W → Prop := fun v' ws' => v' = v ∧ ws' = ws1
theorem g_callV {X : XX} {Z : ZZ} {cc : ByteArray} {n : Nat} {own : String} {l0 : Launch} {d : Nat} {ws wc : va_W} {pc : Nat} {lv : List (Nat × Value)} {st st0 : List Value} (hX : Okk X Z cc n own l0 d) {Post : Option Value → va_W → Prop} {y : MethodName} {b : ByteArray} {n1 d1 idx k a ci N : Nat} {ret : Option FieldType} {As : List Value} {fs : List Value} {T : u_T}
    (con : Con l0 Z y b n1 ret d1 (.ref a :: As) wc Post) (mv : MV y b n1 ret k) (hl : Cond.methodLink own idx y ∈ UW) (hk : As.length = k) (hd1 : d1 + 1 ≤ d) (q0 : Nat) (he : ws[q0]? = some (a, .inr (ci, fs))) (hc : classes[ci]? = some (y.cls, T, N)) (hst : st0 = As.reverse ++ .ref a :: st) (hcat : (st.map fun v => v.category).sum ≤ 8) (hd : decode cc pc = .ok (.invokevirtual idx, 3)) (is : List Nat) (hnd : va_nd is = true) (hC : is.map (fun i => ws[i]?) = wc.map some)
    (kk : ∀ (v : Option Value) (wc1 : va_W), Post v wc1 → G X Z (putW ws is wc1) (pc + 3) lv (v.toList ++ st)) : G X Z ws pc lv st0 := by
  refine g_callC hX is hnd hC kk ?_
  obtain ⟨p, l, e, R, s, m, args, below, meth, c, kc, ks, Q, nL, A⟩ := X
  obtain ⟨hx, hb, hml, hown, hts, hK, hA, hlk, hE, hAB, hzB, hR, rfl, rfl⟩ := hX
  obtain ⟨m1, m2, m3, m4, m5, m6⟩ := mv
  intro ls H locs h hP hPc hDc hsz hEU
  refine ⟨(Value.ref a :: As).toArray, va_runV (As := As) (rest := st) (C := y.cls) (b := a) ⟨hx, hb, hml, hown, hts⟩ (con H.size) (cwV k hts (fun w hw => ?_) rfl rfl rfl ⟨rfl, m5⟩ ⟨?_, ?_⟩) ⟨PcZ.blind Z _ wc _, va_recv (D := zD Z) (cl := classes) hK hP hc he, fun U hU hW => ⟨rfl, by rw [hU], by rw [hU]; exact hPc, va_K.moved hW.alike hK, hDc.weaken (fun _ q _ h => hAB _ h), by rw [hU]; exact hEU U hU hW, fun q hq => hzB q (Nat.le_trans hsz hq)⟩⟩ rfl hk h.1 hst (lv_room hcat) hd ⟨hR.1, hR.2.1⟩⟩
  · have hw' : w = .methodLink own idx y ∨ w = .instanceMethod y ∨ w = .selects y.cls y y ∨ w = .initialized y.cls ∨ w ∈ (Cond.code y b n1 ret :: UW) := by simpa [wsV] using hw
    rcases hw' with rfl | rfl | rfl | rfl | hw'
    · exact ⟨hl, uw_good _ hl⟩
    · exact ⟨m1, uw_good _ m1⟩
    · exact ⟨m2, uw_good _ m2⟩
    · exact ⟨m3, uw_good _ m3⟩
    · exact uw_goodL _ m4 _ hw'
  · exact Nat.le_trans hd1 hR.2.2.1
  · show 8 + (n1 + 11) + 37 * d1 ≤ R.locals
    have := hR.2.2.2
    omega
theorem g_callS {X : XX} {Z : ZZ} {cc : ByteArray} {n : Nat} {own : String} {l0 : Launch} {d : Nat} {ws wc : va_W} {pc : Nat} {lv : List (Nat × Value)} {st st0 : List Value} (hX : Okk X Z cc n own l0 d) {Post : Option Value → va_W → Prop} {y : MethodName} {b : ByteArray} {n1 d1 idx k : Nat} {ret : Option FieldType} {As : List Value}
    (con : Con l0 Z y b n1 ret d1 As wc Post) (mv : MS y b n1 ret k) (hl : Cond.methodLink own idx y ∈ UW) (hk : As.length = k) (hd1 : d1 + 1 ≤ d) (hst : st0 = As.reverse ++ st) (hcat : (st.map fun v => v.category).sum ≤ 8) (hd : decode cc pc = .ok (.invokestatic idx, 3)) (is : List Nat) (hnd : va_nd is = true) (hC : is.map (fun i => ws[i]?) = wc.map some)
    (kk : ∀ (v : Option Value) (wc1 : va_W), Post v wc1 → G X Z (putW ws is wc1) (pc + 3) lv (v.toList ++ st)) : G X Z ws pc lv st0 := by
  refine g_callC hX is hnd hC kk ?_
  obtain ⟨p, l, e, R, s, m, args, below, meth, c, kc, ks, Q, nL, A⟩ := X
  obtain ⟨hx, hb, hml, hown, hts, hK, hA, hlk, hE, hAB, hzB, hR, rfl, rfl⟩ := hX
  obtain ⟨m2, m3, m4, m5, m6⟩ := mv
  intro ls H locs h hP hPc hDc hsz hEU
  refine ⟨As.toArray, va_runS (As := As) (rest := st) ⟨hx, hb, hml, hown, hts⟩ (con H.size) ⟨callB_of k hts (uw_goodL _ m4) rfl rfl rfl (hts _ m3) (hts _ hl) m5 ⟨?_, ?_⟩, hts _ m2⟩ ⟨PcZ.blind Z _ wc _, fun U hU hW => ⟨rfl, by rw [hU], by rw [hU]; exact hPc, va_K.moved hW.alike hK, hDc.weaken (fun _ q _ h => hAB _ h), by rw [hU]; exact hEU U hU hW, fun q hq => hzB q (Nat.le_trans hsz hq)⟩⟩ rfl hk h.1 hst (lv_room hcat) hd ⟨hR.1, hR.2.1⟩⟩
  · exact Nat.le_trans hd1 hR.2.2.1
  · show 8 + (n1 + 11) + 37 * d1 ≤ R.locals
    have := hR.2.2.2
    omega
theorem g_callN {X : XX} {Z : ZZ} {cc : ByteArray} {n : Nat} {own host : String} {l0 : Launch} {d : Nat} {ws wc : va_W} {pc : Nat} {lv : List (Nat × Value)} {st st0 : List Value} (hX : Okk X Z cc n own l0 d) {Post : Option Value → va_W → Prop} {y : MethodName} {b : ByteArray} {n1 d1 idx k : Nat} {ret : Option FieldType} {As : List Value}
    (con : Con l0 Z y b n1 ret d1 As wc Post) (mv : MS y b n1 ret k) (hl : ∀ U H, EN Z U H → va_Nw (.methodLinkNest own idx y host) U) (hk : As.length = k) (hd1 : d1 + 1 ≤ d) (hst : st0 = As.reverse ++ st) (hcat : (st.map fun v => v.category).sum ≤ 8) (hd : decode cc pc = .ok (.invokestatic idx, 3)) (is : List Nat) (hnd : va_nd is = true) (hC : is.map (fun i => ws[i]?) = wc.map some)
    (kk : ∀ (v : Option Value) (wc1 : va_W), Post v wc1 → G X Z (putW ws is wc1) (pc + 3) lv (v.toList ++ st)) : G X Z ws pc lv st0 := by
  refine g_callC hX is hnd hC kk ?_
  obtain ⟨p, l, e, R, s, m, args, below, meth, c, kc, ks, Q, nL, A⟩ := X
  obtain ⟨hx, hb, hml, hown, hts, hK, hA, hlk, hE, hAB, hzB, hR, rfl, rfl⟩ := hX
  obtain ⟨m2, m3, m4, m5, m6⟩ := mv
  intro ls H locs h hP hPc hDc hsz hEU
  refine ⟨As.toArray, va_runSN (As := As) (rest := st) ⟨hx, hb, hml, hown, hts⟩ (con H.size) ⟨va_cnB k hts (uw_goodL _ m4) rfl rfl rfl (hl s _ hE) (hts _ m3) m5 ⟨?_, ?_⟩, hts _ m2, trivial⟩ ⟨PcZ.blind Z _ wc _, fun U hU hW => ⟨rfl, by rw [hU], by rw [hU]; exact hPc, va_K.moved hW.alike hK, hDc.weaken (fun _ q _ h => hAB _ h), by rw [hU]; exact hEU U hU hW, fun q hq => hzB q (Nat.le_trans hsz hq)⟩⟩ rfl hk h.1 hst (lv_room hcat) hd ⟨hR.1, hR.2.1⟩⟩
  · exact Nat.le_trans hd1 hR.2.2.1
  · show 8 + (n1 + 11) + 37 * d1 ≤ R.locals
    have := hR.2.2.2
    omega
theorem g_fn {X : XX} {Z : ZZ} {ws ws1 wc1 : va_W} {pc : Nat} {lv : List (Nat × Value)} {st st1 : List Value} {is : List Nat} {v : Option Value} (hw : putW ws is wc1 = ws1) (hs : v.toList ++ st = st1) (kk : G X Z ws1 (pc + 3) lv st1) : ∀ (v' : Option Value) (w' : va_W), Fn v wc1 v' w' → G X Z (putW ws is w') (pc + 3) lv (v'.toList ++ st) := by
  rintro _ _ ⟨rfl, rfl⟩
  rw [hw, hs]
  exact kk
-- loops
theorem loopUp (P : Nat → Prop) (N : Nat) (hx : P N) (hs : ∀ i, i < N → P (i + 1) → P i) : ∀ i, i ≤ N → P i := by
  intro i hi
  obtain ⟨k, rfl⟩ : ∃ k, N = i + k := ⟨N - i, by omega⟩
  induction k generalizing i with
  | zero => exact hx
  | succ k ih => exact hs i (by omega) (ih (i + 1) (by rw [show i + 1 + k = i + (k + 1) by omega]; exact hx) (fun j hj => hs j (by omega)) (by omega))
-- the state: rows of ints, by numbers
abbrev St : Type := Nat → Nat → Int32
def sw (S : St) (k i : Nat) (v : Int32) : St := fun a => if a = k then upd (S a) i v else S a
theorem sw_eq (S : St) (k i : Nat) (v : Int32) : sw S k i v k = upd (S k) i v := if_pos rfl
theorem sw_ne (S : St) {k a : Nat} (i : Nat) (v : Int32) (h : a ≠ k) : sw S k i v a = S a := if_neg h
abbrev wB (Z : ZZ) (h : Nat) (q : Nat → Nat) (S : St) : va_W := [(h, .inr (0, [.ref (q 0), .ref (q 1), .ref (q 2), .ref (q 3), .ref (q 4), .ref (q 5), .ref (q 6), .int (S 12 0), .ref (q 7), .ref (q 8), .ref (q 9), .ref (q 10), .int (S 12 1), .ref (q 11), .int (S 12 2), .int (S 12 3)])), (q 0, .inl (zI Z, 6, .inl (S 0))), (q 1, .inl (zI Z, 6, .inl (S 1))), (q 2, .inl (zI Z, 7, .inl (S 2))), (q 3, .inl (zI Z, 7, .inl (S 3))), (q 4, .inl (zI Z, 7, .inl (S 4))), (q 5, .inl (zI Z, 7, .inl (S 5))), (q 6, .inl (zI Z, 7, .inl (S 6))), (q 7, .inl (zI Z, 5, .inl (S 7))), (q 8, .inl (zI Z, 5, .inl (S 8))), (q 9, .inl (zI Z, 5, .inl (S 9))), (q 10, .inl (zI Z, 5, .inl (S 10))), (q 11, .inl (zI Z, 6, .inl (S 11)))]
abbrev wT (Z : ZZ) (h : Nat) (q : Nat → Nat) (S : St) : va_W := [(h, .inr (1, [.ref (q 0), .int (S 1 0)])), (q 0, .inl (zI Z, 96, .inl (S 0)))]
abbrev wW (Z : ZZ) (h : Nat) (q : Nat → Nat) (S : St) : va_W := [(h, .inr (2, [.ref (q 7), .ref (q 8)])), (q 0, .inl (zI Z, 7, .inl (S 0))), (q 1, .inl (zI Z, 7, .inl (S 1))), (q 2, .inl (zI Z, 7, .inl (S 2))), (q 3, .inl (zI Z, 7, .inl (S 3))), (q 4, .inl (zI Z, 7, .inl (S 4))), (q 5, .inl (zI Z, 7, .inl (S 5))), (q 6, .inl (zI Z, 7, .inl (S 6))), (q 7, .inl (zJ Z, 7, .inr (.inr (.inr (.inr (fun i => if i < 7 then some (q i) else none)))))), (q 8, .inl (zI Z, 896, .inl (S 8)))]
abbrev wM (Z : ZZ) (h : Nat) (q : Nat → Nat) (S : St) : va_W := [(h, .inr (4, [.ref (q 0), .ref (q 1), .int (S 12 0), .ref (q 2), .ref (q 3), .ref (q 4), .ref (q 5), .ref (q 6), .int (S 12 1), .ref (q 7), .ref (q 8), .ref (q 9), .ref (q 10), .int (S 12 2), .ref (q 11), .int (S 12 3), .int (S 12 4), .ref (q 13), .int (S 12 5), .ref (q 14), .int (S 12 6), .ref (q 15), .ref (q 16), .int (S 12 7), .ref (q 17), .ref (q 18), .ref (q 19), .ref (q 20), .ref (q 21)])), (q 0, .inl (zI Z, 6, .inl (S 0))), (q 1, .inl (zI Z, 6, .inl (S 1))), (q 2, .inl (zI Z, 8, .inl (S 2))), (q 3, .inl (zI Z, 8, .inl (S 3))), (q 4, .inl (zI Z, 8, .inl (S 4))), (q 5, .inl (zI Z, 8, .inl (S 5))), (q 6, .inl (zI Z, 8, .inl (S 6))), (q 7, .inl (zI Z, 5, .inl (S 7))), (q 8, .inl (zI Z, 5, .inl (S 8))), (q 9, .inl (zI Z, 5, .inl (S 9))), (q 10, .inl (zI Z, 5, .inl (S 10))), (q 11, .inl (zI Z, 7, .inl (S 11))), (q 13, .inl (zI Z, 96, .inl (S 13))), (q 14, .inl (zI Z, 4, .inl (S 14))), (q 15, .inl (zI Z, 12, .inl (S 15))), (q 16, .inl (zI Z, 7, .inl (S 16))), (q 17, .inl (zI Z, 77, .inl (S 17))), (q 18, .inl (zI Z, 77, .inl (S 18))), (q 19, .inl (zI Z, 7, .inl (S 19))), (q 20, .inl (zI Z, 896, .inl (S 20))), (q 21, .inl (zI Z, 7, .inl (S 21)))]
abbrev wX (Z : ZZ) (a : Nat → Nat → Nat) (Sn Sm Sk T L U : St) : va_W := [(a 0 0, .inr (3, [.ref (a 1 0), .ref (a 2 0), .ref (a 3 0), .int (U 0 0), .ref (a 4 0), .ref (a 5 0), .ref (a 0 1), .int (U 0 1), .ref (a 0 2)])), (a 0 1, .inl (zI Z, 12, .inl (U 1))), (a 0 2, .inl (zI Z, 7, .inl (U 2)))] ++ (wB Z (a 1 0) (fun k => a 1 (k + 1)) Sn ++ (wB Z (a 2 0) (fun k => a 2 (k + 1)) Sm ++ (wB Z (a 3 0) (fun k => a 3 (k + 1)) Sk ++ (wT Z (a 4 0) (fun k => a 4 (k + 1)) T ++ wW Z (a 5 0) (fun k => a 5 (k + 1)) L))))
end
section
/-! the words, by their places -/
theorem q_0 : (Jvm.Cond.initialized "NeverBothDoorsLaw") ∈ UW := uw_in 36 (by decide +kernel) (by decide +kernel)
theorem q_1 : (Jvm.Cond.initialized "NeverBothDoors") ∈ UW := uw_in 37 (by decide +kernel) (by decide +kernel)
theorem q_2 : (Jvm.Cond.initialized "NeverBothDoors$Burrow") ∈ UW := uw_in 38 (by decide +kernel) (by decide +kernel)
theorem q_3 : (Jvm.Cond.initialized "java/util/Arrays") ∈ UW := uw_in 39 (by decide +kernel) (by decide +kernel)
theorem q_4 : (Jvm.Cond.initialized "NeverBothDoors$Text") ∈ UW := uw_in 40 (by decide +kernel) (by decide +kernel)
theorem q_5 : (Jvm.Cond.initialized "NeverBothDoors$Ways") ∈ UW := uw_in 41 (by decide +kernel) (by decide +kernel)
theorem q_6 : (Jvm.Cond.initialized "NeverBothDoorsModel") ∈ UW := uw_in 42 (by decide +kernel) (by decide +kernel)
theorem q_7 : (Jvm.Cond.initialized "java/lang/String") ∈ UW := uw_in 43 (by decide +kernel) (by decide +kernel)
theorem q_8 : (Jvm.Cond.initialized "java/lang/StringLatin1") ∈ UW := uw_in 44 (by decide +kernel) (by decide +kernel)
theorem q_9 : (Jvm.Cond.initialized "jdk/internal/util/Preconditions") ∈ UW := uw_in 45 (by decide +kernel) (by decide +kernel)
theorem q_10 : (Jvm.Cond.initialized "java/lang/StringUTF16") ∈ UW := uw_in 46 (by decide +kernel) (by decide +kernel)
theorem q_11 : (Jvm.Cond.initialized "java/lang/System") ∈ UW := uw_in 47 (by decide +kernel) (by decide +kernel)
theorem q_12 : (Jvm.Cond.initialized "java/lang/Math") ∈ UW := uw_in 48 (by decide +kernel) (by decide +kernel)
theorem q_13 : (Jvm.Cond.initialized "java/lang/Character") ∈ UW := uw_in 49 (by decide +kernel) (by decide +kernel)
theorem q_14 : (Jvm.Cond.initialized "java/lang/Integer") ∈ UW := uw_in 50 (by decide +kernel) (by decide +kernel)
theorem q_15 : (Jvm.Cond.classLink "NeverBothDoorsLaw" (7 : Nat) "NeverBothDoors") ∈ UW := uw_in 51 (by decide +kernel) (by decide +kernel)
theorem q_16 : (Jvm.Cond.instantiable "NeverBothDoors" (9 : Nat)) ∈ UW := uw_in 52 (by decide +kernel) (by decide +kernel)
theorem q_17 : (Jvm.Cond.methodLink "NeverBothDoorsLaw" (9 : Nat) ({ cls := "NeverBothDoors", name := "<init>", desc := "()V" } : Jvm.MethodName)) ∈ UW := uw_in 53 (by decide +kernel) (by decide +kernel)
theorem q_18 : (Jvm.Cond.instanceMethod ({ cls := "NeverBothDoors", name := "<init>", desc := "()V" } : Jvm.MethodName)) ∈ UW := uw_in 54 (by decide +kernel) (by decide +kernel)
theorem q_19 : (Jvm.Cond.code ({ cls := "NeverBothDoors", name := "<init>", desc := "()V" } : Jvm.MethodName) prog_1_method_1_code (1 : Nat) (Option.none : Option Jvm.ClassFile.FieldType)) ∈ UW := uw_in 55 (by decide +kernel) (by decide +kernel)
theorem q_20 : (Jvm.Cond.methodLink "NeverBothDoors" (3 : Nat) ({ cls := "java/lang/Object", name := "<init>", desc := "()V" } : Jvm.MethodName)) ∈ UW := uw_in 56 (by decide +kernel) (by decide +kernel)
theorem q_21 : (Jvm.Cond.instanceMethod ({ cls := "java/lang/Object", name := "<init>", desc := "()V" } : Jvm.MethodName)) ∈ UW := uw_in 57 (by decide +kernel) (by decide +kernel)
theorem q_22 : (Jvm.Cond.code ({ cls := "java/lang/Object", name := "<init>", desc := "()V" } : Jvm.MethodName) object_method_1_code (1 : Nat) (Option.none : Option Jvm.ClassFile.FieldType)) ∈ UW := uw_in 58 (by decide +kernel) (by decide +kernel)
theorem q_23 : (Jvm.Cond.classLink "NeverBothDoors" (9 : Nat) "NeverBothDoors$Burrow") ∈ UW := uw_in 59 (by decide +kernel) (by decide +kernel)
theorem q_24 : (Jvm.Cond.instantiable "NeverBothDoors$Burrow" (16 : Nat)) ∈ UW := uw_in 60 (by decide +kernel) (by decide +kernel)
theorem q_25 : (Jvm.Cond.methodLink "NeverBothDoors" (11 : Nat) ({ cls := "NeverBothDoors$Burrow", name := "<init>", desc := "()V" } : Jvm.MethodName)) ∈ UW := uw_in 61 (by decide +kernel) (by decide +kernel)
theorem q_26 : (Jvm.Cond.instanceMethod ({ cls := "NeverBothDoors$Burrow", name := "<init>", desc := "()V" } : Jvm.MethodName)) ∈ UW := uw_in 62 (by decide +kernel) (by decide +kernel)
theorem q_27 : (Jvm.Cond.code ({ cls := "NeverBothDoors$Burrow", name := "<init>", desc := "()V" } : Jvm.MethodName) prog_2_method_1_code (1 : Nat) (Option.none : Option Jvm.ClassFile.FieldType)) ∈ UW := uw_in 63 (by decide +kernel) (by decide +kernel)
theorem q_28 : (Jvm.Cond.methodLink "NeverBothDoors$Burrow" (3 : Nat) ({ cls := "java/lang/Object", name := "<init>", desc := "()V" } : Jvm.MethodName)) ∈ UW := uw_in 64 (by decide +kernel) (by decide +kernel)
theorem q_29 : (Jvm.Cond.methodLink "NeverBothDoors$Burrow" (61 : Nat) ({ cls := "java/util/Arrays", name := "fill", desc := "([II)V" } : Jvm.MethodName)) ∈ UW := uw_in 65 (by decide +kernel) (by decide +kernel)
theorem q_30 : (Jvm.Cond.static ({ cls := "java/util/Arrays", name := "fill", desc := "([II)V" } : Jvm.MethodName)) ∈ UW := uw_in 66 (by decide +kernel) (by decide +kernel)
theorem q_31 : (Jvm.Cond.code ({ cls := "java/util/Arrays", name := "fill", desc := "([II)V" } : Jvm.MethodName) prog_14_method_103_code (4 : Nat) (Option.none : Option Jvm.ClassFile.FieldType)) ∈ UW := uw_in 67 (by decide +kernel) (by decide +kernel)
theorem q_32 : (Jvm.Cond.fieldLink "NeverBothDoors$Burrow" (9 : Nat) "NeverBothDoors$Burrow" "air" "[I") ∈ UW := uw_in 68 (by decide +kernel) (by decide +kernel)
theorem q_33 : (Jvm.Cond.fieldLink "NeverBothDoors" (70 : Nat) "NeverBothDoors$Burrow" "air" "[I") ∈ UW := uw_in 69 (by decide +kernel) (by decide +kernel)
theorem q_34 : (Jvm.Cond.fieldLink "NeverBothDoors$Burrow" (15 : Nat) "NeverBothDoors$Burrow" "leak" "[I") ∈ UW := uw_in 70 (by decide +kernel) (by decide +kernel)
theorem q_35 : (Jvm.Cond.fieldLink "NeverBothDoors" (73 : Nat) "NeverBothDoors$Burrow" "leak" "[I") ∈ UW := uw_in 71 (by decide +kernel) (by decide +kernel)
theorem q_36 : (Jvm.Cond.fieldLink "NeverBothDoors$Burrow" (18 : Nat) "NeverBothDoors$Burrow" "lesser" "[I") ∈ UW := uw_in 72 (by decide +kernel) (by decide +kernel)
theorem q_37 : (Jvm.Cond.fieldLink "NeverBothDoors$Ways" (27 : Nat) "NeverBothDoors$Burrow" "lesser" "[I") ∈ UW := uw_in 73 (by decide +kernel) (by decide +kernel)
theorem q_38 : (Jvm.Cond.fieldLink "NeverBothDoors" (85 : Nat) "NeverBothDoors$Burrow" "lesser" "[I") ∈ UW := uw_in 74 (by decide +kernel) (by decide +kernel)
theorem q_39 : (Jvm.Cond.fieldLink "NeverBothDoors$Burrow" (21 : Nat) "NeverBothDoors$Burrow" "other" "[I") ∈ UW := uw_in 75 (by decide +kernel) (by decide +kernel)
theorem q_40 : (Jvm.Cond.fieldLink "NeverBothDoors$Ways" (30 : Nat) "NeverBothDoors$Burrow" "other" "[I") ∈ UW := uw_in 76 (by decide +kernel) (by decide +kernel)
theorem q_41 : (Jvm.Cond.fieldLink "NeverBothDoors" (88 : Nat) "NeverBothDoors$Burrow" "other" "[I") ∈ UW := uw_in 77 (by decide +kernel) (by decide +kernel)
theorem q_42 : (Jvm.Cond.fieldLink "NeverBothDoors$Burrow" (24 : Nat) "NeverBothDoors$Burrow" "size" "[I") ∈ UW := uw_in 78 (by decide +kernel) (by decide +kernel)
theorem q_43 : (Jvm.Cond.fieldLink "NeverBothDoors" (91 : Nat) "NeverBothDoors$Burrow" "size" "[I") ∈ UW := uw_in 79 (by decide +kernel) (by decide +kernel)
theorem q_44 : (Jvm.Cond.fieldLink "NeverBothDoors$Burrow" (27 : Nat) "NeverBothDoors$Burrow" "cycle" "[I") ∈ UW := uw_in 80 (by decide +kernel) (by decide +kernel)
theorem q_45 : (Jvm.Cond.fieldLink "NeverBothDoors$Ways" (33 : Nat) "NeverBothDoors$Burrow" "cycle" "[I") ∈ UW := uw_in 81 (by decide +kernel) (by decide +kernel)
theorem q_46 : (Jvm.Cond.fieldLink "NeverBothDoors" (94 : Nat) "NeverBothDoors$Burrow" "cycle" "[I") ∈ UW := uw_in 82 (by decide +kernel) (by decide +kernel)
theorem q_47 : (Jvm.Cond.fieldLink "NeverBothDoors$Burrow" (30 : Nat) "NeverBothDoors$Burrow" "door" "[I") ∈ UW := uw_in 83 (by decide +kernel) (by decide +kernel)
theorem q_48 : (Jvm.Cond.fieldLink "NeverBothDoors" (97 : Nat) "NeverBothDoors$Burrow" "door" "[I") ∈ UW := uw_in 84 (by decide +kernel) (by decide +kernel)
theorem q_49 : (Jvm.Cond.fieldLink "NeverBothDoors$Burrow" (33 : Nat) "NeverBothDoors$Burrow" "locks" "I") ∈ UW := uw_in 85 (by decide +kernel) (by decide +kernel)
theorem q_50 : (Jvm.Cond.fieldLink "NeverBothDoors$Ways" (21 : Nat) "NeverBothDoors$Burrow" "locks" "I") ∈ UW := uw_in 86 (by decide +kernel) (by decide +kernel)
theorem q_51 : (Jvm.Cond.fieldLink "NeverBothDoors" (197 : Nat) "NeverBothDoors$Burrow" "locks" "I") ∈ UW := uw_in 87 (by decide +kernel) (by decide +kernel)
theorem q_52 : (Jvm.Cond.fieldLink "NeverBothDoors$Burrow" (37 : Nat) "NeverBothDoors$Burrow" "kind" "[I") ∈ UW := uw_in 88 (by decide +kernel) (by decide +kernel)
theorem q_53 : (Jvm.Cond.fieldLink "NeverBothDoors" (103 : Nat) "NeverBothDoors$Burrow" "kind" "[I") ∈ UW := uw_in 89 (by decide +kernel) (by decide +kernel)
theorem q_54 : (Jvm.Cond.fieldLink "NeverBothDoors$Burrow" (40 : Nat) "NeverBothDoors$Burrow" "place" "[I") ∈ UW := uw_in 90 (by decide +kernel) (by decide +kernel)
theorem q_55 : (Jvm.Cond.fieldLink "NeverBothDoors" (106 : Nat) "NeverBothDoors$Burrow" "place" "[I") ∈ UW := uw_in 91 (by decide +kernel) (by decide +kernel)
theorem q_56 : (Jvm.Cond.fieldLink "NeverBothDoors$Burrow" (43 : Nat) "NeverBothDoors$Burrow" "fit" "[I") ∈ UW := uw_in 92 (by decide +kernel) (by decide +kernel)
theorem q_57 : (Jvm.Cond.fieldLink "NeverBothDoors" (109 : Nat) "NeverBothDoors$Burrow" "fit" "[I") ∈ UW := uw_in 93 (by decide +kernel) (by decide +kernel)
theorem q_58 : (Jvm.Cond.fieldLink "NeverBothDoors$Burrow" (46 : Nat) "NeverBothDoors$Burrow" "suit" "[I") ∈ UW := uw_in 94 (by decide +kernel) (by decide +kernel)
theorem q_59 : (Jvm.Cond.fieldLink "NeverBothDoors" (112 : Nat) "NeverBothDoors$Burrow" "suit" "[I") ∈ UW := uw_in 95 (by decide +kernel) (by decide +kernel)
theorem q_60 : (Jvm.Cond.fieldLink "NeverBothDoors$Burrow" (49 : Nat) "NeverBothDoors$Burrow" "people" "I") ∈ UW := uw_in 96 (by decide +kernel) (by decide +kernel)
theorem q_61 : (Jvm.Cond.fieldLink "NeverBothDoors" (171 : Nat) "NeverBothDoors$Burrow" "people" "I") ∈ UW := uw_in 97 (by decide +kernel) (by decide +kernel)
theorem q_62 : (Jvm.Cond.fieldLink "NeverBothDoors$Burrow" (52 : Nat) "NeverBothDoors$Burrow" "suits" "[I") ∈ UW := uw_in 98 (by decide +kernel) (by decide +kernel)
theorem q_63 : (Jvm.Cond.fieldLink "NeverBothDoors$Burrow" (55 : Nat) "NeverBothDoors$Burrow" "minute" "I") ∈ UW := uw_in 99 (by decide +kernel) (by decide +kernel)
theorem q_64 : (Jvm.Cond.fieldLink "NeverBothDoors" (122 : Nat) "NeverBothDoors$Burrow" "minute" "I") ∈ UW := uw_in 100 (by decide +kernel) (by decide +kernel)
theorem q_65 : (Jvm.Cond.fieldLink "NeverBothDoors$Burrow" (58 : Nat) "NeverBothDoors$Burrow" "gasped" "I") ∈ UW := uw_in 101 (by decide +kernel) (by decide +kernel)
theorem q_66 : (Jvm.Cond.fieldLink "NeverBothDoors" (194 : Nat) "NeverBothDoors$Burrow" "gasped" "I") ∈ UW := uw_in 102 (by decide +kernel) (by decide +kernel)
theorem q_100 : (Jvm.Cond.arrayClass Jvm.ClassFile.FieldType.int) ∈ UW := uw_in 136 (by decide +kernel) (by decide +kernel)
theorem q_101 : (Jvm.Cond.classLink "NeverBothDoors" (26 : Nat) "NeverBothDoors$Text") ∈ UW := uw_in 137 (by decide +kernel) (by decide +kernel)
theorem q_102 : (Jvm.Cond.instantiable "NeverBothDoors$Text" (2 : Nat)) ∈ UW := uw_in 138 (by decide +kernel) (by decide +kernel)
theorem q_104 : (Jvm.Cond.instanceMethod ({ cls := "NeverBothDoors$Text", name := "<init>", desc := "()V" } : Jvm.MethodName)) ∈ UW := uw_in 140 (by decide +kernel) (by decide +kernel)
theorem q_105 : (Jvm.Cond.code ({ cls := "NeverBothDoors$Text", name := "<init>", desc := "()V" } : Jvm.MethodName) prog_3_method_1_code (1 : Nat) (Option.none : Option Jvm.ClassFile.FieldType)) ∈ UW := uw_in 141 (by decide +kernel) (by decide +kernel)
theorem q_106 : (Jvm.Cond.methodLink "NeverBothDoors$Text" (3 : Nat) ({ cls := "java/lang/Object", name := "<init>", desc := "()V" } : Jvm.MethodName)) ∈ UW := uw_in 142 (by decide +kernel) (by decide +kernel)
theorem q_107 : (Jvm.Cond.fieldLink "NeverBothDoors$Text" (9 : Nat) "NeverBothDoors$Text" "signs" "[I") ∈ UW := uw_in 143 (by decide +kernel) (by decide +kernel)
theorem q_108 : (Jvm.Cond.fieldLink "NeverBothDoors$Text" (15 : Nat) "NeverBothDoors$Text" "length" "I") ∈ UW := uw_in 144 (by decide +kernel) (by decide +kernel)
theorem q_109 : (Jvm.Cond.fieldLink "NeverBothDoors" (55 : Nat) "NeverBothDoors$Text" "length" "I") ∈ UW := uw_in 145 (by decide +kernel) (by decide +kernel)
theorem q_115 : (Jvm.Cond.classLink "NeverBothDoors" (33 : Nat) "NeverBothDoors$Ways") ∈ UW := uw_in 151 (by decide +kernel) (by decide +kernel)
theorem q_116 : (Jvm.Cond.instantiable "NeverBothDoors$Ways" (2 : Nat)) ∈ UW := uw_in 152 (by decide +kernel) (by decide +kernel)
theorem q_118 : (Jvm.Cond.instanceMethod ({ cls := "NeverBothDoors$Ways", name := "<init>", desc := "()V" } : Jvm.MethodName)) ∈ UW := uw_in 154 (by decide +kernel) (by decide +kernel)
theorem q_119 : (Jvm.Cond.code ({ cls := "NeverBothDoors$Ways", name := "<init>", desc := "()V" } : Jvm.MethodName) prog_4_method_1_code (1 : Nat) (Option.none : Option Jvm.ClassFile.FieldType)) ∈ UW := uw_in 155 (by decide +kernel) (by decide +kernel)
theorem q_120 : (Jvm.Cond.methodLink "NeverBothDoors$Ways" (3 : Nat) ({ cls := "java/lang/Object", name := "<init>", desc := "()V" } : Jvm.MethodName)) ∈ UW := uw_in 156 (by decide +kernel) (by decide +kernel)
theorem q_121 : (Jvm.Cond.classLink "NeverBothDoors$Ways" (9 : Nat) "[[I") ∈ UW := uw_in 157 (by decide +kernel) (by decide +kernel)
theorem q_123 : (Jvm.Cond.fieldLink "NeverBothDoors$Ways" (11 : Nat) "NeverBothDoors$Ways" "length" "[[I") ∈ UW := uw_in 159 (by decide +kernel) (by decide +kernel)
theorem q_124 : (Jvm.Cond.fieldLink "NeverBothDoors" (149 : Nat) "NeverBothDoors$Ways" "length" "[[I") ∈ UW := uw_in 160 (by decide +kernel) (by decide +kernel)
theorem q_125 : (Jvm.Cond.fieldLink "NeverBothDoors$Ways" (16 : Nat) "NeverBothDoors$Ways" "errand" "[I") ∈ UW := uw_in 161 (by decide +kernel) (by decide +kernel)
theorem q_131 : (Jvm.Cond.fieldLink "NeverBothDoors" (12 : Nat) "NeverBothDoors" "now" "LNeverBothDoors$Burrow;") ∈ UW := uw_in 167 (by decide +kernel) (by decide +kernel)
theorem q_132 : (Jvm.Cond.fieldLink "NeverBothDoors" (16 : Nat) "NeverBothDoors" "mind" "LNeverBothDoors$Burrow;") ∈ UW := uw_in 168 (by decide +kernel) (by decide +kernel)
theorem q_133 : (Jvm.Cond.fieldLink "NeverBothDoors" (19 : Nat) "NeverBothDoors" "kept" "LNeverBothDoors$Burrow;") ∈ UW := uw_in 169 (by decide +kernel) (by decide +kernel)
theorem q_134 : (Jvm.Cond.fieldLink "NeverBothDoors" (22 : Nat) "NeverBothDoors" "imageTaken" "Z") ∈ UW := uw_in 170 (by decide +kernel) (by decide +kernel)
theorem q_135 : (Jvm.Cond.fieldLink "NeverBothDoors" (29 : Nat) "NeverBothDoors" "text" "LNeverBothDoors$Text;") ∈ UW := uw_in 171 (by decide +kernel) (by decide +kernel)
theorem q_136 : (Jvm.Cond.fieldLink "NeverBothDoors" (36 : Nat) "NeverBothDoors" "ways" "LNeverBothDoors$Ways;") ∈ UW := uw_in 172 (by decide +kernel) (by decide +kernel)
theorem q_137 : (Jvm.Cond.fieldLink "NeverBothDoors" (40 : Nat) "NeverBothDoors" "told" "[I") ∈ UW := uw_in 173 (by decide +kernel) (by decide +kernel)
theorem q_138 : (Jvm.Cond.fieldLink "NeverBothDoors" (44 : Nat) "NeverBothDoors" "toldCount" "I") ∈ UW := uw_in 174 (by decide +kernel) (by decide +kernel)
theorem q_139 : (Jvm.Cond.fieldLink "NeverBothDoors" (48 : Nat) "NeverBothDoors" "refusals" "[I") ∈ UW := uw_in 175 (by decide +kernel) (by decide +kernel)
theorem q_159 : (Jvm.Cond.methodLink "NeverBothDoorsLaw" (13 : Nat) ({ cls := "NeverBothDoors", name := "letter", desc := "(I)I" } : Jvm.MethodName)) ∈ UW := uw_in 195 (by decide +kernel) (by decide +kernel)
theorem q_160 : (Jvm.Cond.instanceMethod ({ cls := "NeverBothDoors", name := "letter", desc := "(I)I" } : Jvm.MethodName)) ∈ UW := uw_in 196 (by decide +kernel) (by decide +kernel)
theorem q_161 : (Jvm.Cond.selects "NeverBothDoors" ({ cls := "NeverBothDoors", name := "letter", desc := "(I)I" } : Jvm.MethodName) ({ cls := "NeverBothDoors", name := "letter", desc := "(I)I" } : Jvm.MethodName)) ∈ UW := uw_in 197 (by decide +kernel) (by decide +kernel)
theorem q_162 : (Jvm.Cond.code ({ cls := "NeverBothDoors", name := "letter", desc := "(I)I" } : Jvm.MethodName) prog_1_method_2_code (2 : Nat) (Option.some Jvm.ClassFile.FieldType.int)) ∈ UW := uw_in 198 (by decide +kernel) (by decide +kernel)
theorem q_163 : (Jvm.Cond.methodLink "NeverBothDoors" (51 : Nat) ({ cls := "NeverBothDoors", name := "refuse", desc := "(I)I" } : Jvm.MethodName)) ∈ UW := uw_in 199 (by decide +kernel) (by decide +kernel)
theorem q_165 : (Jvm.Cond.instanceMethod ({ cls := "NeverBothDoors", name := "refuse", desc := "(I)I" } : Jvm.MethodName)) ∈ UW := uw_in 201 (by decide +kernel) (by decide +kernel)
theorem q_166 : (Jvm.Cond.code ({ cls := "NeverBothDoors", name := "refuse", desc := "(I)I" } : Jvm.MethodName) prog_1_method_30_code (2 : Nat) (Option.some Jvm.ClassFile.FieldType.int)) ∈ UW := uw_in 202 (by decide +kernel) (by decide +kernel)
theorem q_167 : (Jvm.Cond.methodLink "NeverBothDoors" (58 : Nat) ({ cls := "NeverBothDoors$Text", name := "add", desc := "(I)V" } : Jvm.MethodName)) ∈ UW := uw_in 203 (by decide +kernel) (by decide +kernel)
theorem q_168 : (Jvm.Cond.instanceMethod ({ cls := "NeverBothDoors$Text", name := "add", desc := "(I)V" } : Jvm.MethodName)) ∈ UW := uw_in 204 (by decide +kernel) (by decide +kernel)
theorem q_169 : (Jvm.Cond.selects "NeverBothDoors$Text" ({ cls := "NeverBothDoors$Text", name := "add", desc := "(I)V" } : Jvm.MethodName) ({ cls := "NeverBothDoors$Text", name := "add", desc := "(I)V" } : Jvm.MethodName)) ∈ UW := uw_in 205 (by decide +kernel) (by decide +kernel)
theorem q_170 : (Jvm.Cond.code ({ cls := "NeverBothDoors$Text", name := "add", desc := "(I)V" } : Jvm.MethodName) prog_3_method_2_code (2 : Nat) (Option.none : Option Jvm.ClassFile.FieldType)) ∈ UW := uw_in 206 (by decide +kernel) (by decide +kernel)
theorem q_171 : (Jvm.Cond.methodLink "NeverBothDoorsLaw" (18 : Nat) ({ cls := "NeverBothDoors", name := "burrow", desc := "()I" } : Jvm.MethodName)) ∈ UW := uw_in 207 (by decide +kernel) (by decide +kernel)
theorem q_172 : (Jvm.Cond.instanceMethod ({ cls := "NeverBothDoors", name := "burrow", desc := "()I" } : Jvm.MethodName)) ∈ UW := uw_in 208 (by decide +kernel) (by decide +kernel)
theorem q_173 : (Jvm.Cond.selects "NeverBothDoors" ({ cls := "NeverBothDoors", name := "burrow", desc := "()I" } : Jvm.MethodName) ({ cls := "NeverBothDoors", name := "burrow", desc := "()I" } : Jvm.MethodName)) ∈ UW := uw_in 209 (by decide +kernel) (by decide +kernel)
theorem q_174 : (Jvm.Cond.code ({ cls := "NeverBothDoors", name := "burrow", desc := "()I" } : Jvm.MethodName) prog_1_method_3_code (2 : Nat) (Option.some Jvm.ClassFile.FieldType.int)) ∈ UW := uw_in 210 (by decide +kernel) (by decide +kernel)
theorem q_175 : (Jvm.Cond.methodLink "NeverBothDoors" (62 : Nat) ({ cls := "NeverBothDoors", name := "readBurrow", desc := "()I" } : Jvm.MethodName)) ∈ UW := uw_in 211 (by decide +kernel) (by decide +kernel)
theorem q_177 : (Jvm.Cond.instanceMethod ({ cls := "NeverBothDoors", name := "readBurrow", desc := "()I" } : Jvm.MethodName)) ∈ UW := uw_in 213 (by decide +kernel) (by decide +kernel)
theorem q_178 : (Jvm.Cond.code ({ cls := "NeverBothDoors", name := "readBurrow", desc := "()I" } : Jvm.MethodName) prog_1_method_35_code (4 : Nat) (Option.some Jvm.ClassFile.FieldType.int)) ∈ UW := uw_in 214 (by decide +kernel) (by decide +kernel)
theorem q_179 : (Jvm.Cond.methodLink "NeverBothDoors" (208 : Nat) ({ cls := "NeverBothDoors$Text", name := "misformedAt", desc := "()I" } : Jvm.MethodName)) ∈ UW := uw_in 215 (by decide +kernel) (by decide +kernel)
theorem q_180 : (Jvm.Cond.instanceMethod ({ cls := "NeverBothDoors$Text", name := "misformedAt", desc := "()I" } : Jvm.MethodName)) ∈ UW := uw_in 216 (by decide +kernel) (by decide +kernel)
theorem q_181 : (Jvm.Cond.selects "NeverBothDoors$Text" ({ cls := "NeverBothDoors$Text", name := "misformedAt", desc := "()I" } : Jvm.MethodName) ({ cls := "NeverBothDoors$Text", name := "misformedAt", desc := "()I" } : Jvm.MethodName)) ∈ UW := uw_in 217 (by decide +kernel) (by decide +kernel)
theorem q_182 : (Jvm.Cond.code ({ cls := "NeverBothDoors$Text", name := "misformedAt", desc := "()I" } : Jvm.MethodName) prog_3_method_6_code (4 : Nat) (Option.some Jvm.ClassFile.FieldType.int)) ∈ UW := uw_in 218 (by decide +kernel) (by decide +kernel)
theorem q_183 : (Jvm.Cond.methodLink "NeverBothDoors$Text" (26 : Nat) ({ cls := "NeverBothDoors$Text", name := "behindStatement", desc := "(I)I" } : Jvm.MethodName)) ∈ UW := uw_in 219 (by decide +kernel) (by decide +kernel)
theorem q_184 : (Jvm.Cond.instanceMethod ({ cls := "NeverBothDoors$Text", name := "behindStatement", desc := "(I)I" } : Jvm.MethodName)) ∈ UW := uw_in 220 (by decide +kernel) (by decide +kernel)
theorem q_185 : (Jvm.Cond.selects "NeverBothDoors$Text" ({ cls := "NeverBothDoors$Text", name := "behindStatement", desc := "(I)I" } : Jvm.MethodName) ({ cls := "NeverBothDoors$Text", name := "behindStatement", desc := "(I)I" } : Jvm.MethodName)) ∈ UW := uw_in 221 (by decide +kernel) (by decide +kernel)
theorem q_186 : (Jvm.Cond.code ({ cls := "NeverBothDoors$Text", name := "behindStatement", desc := "(I)I" } : Jvm.MethodName) prog_3_method_7_code (6 : Nat) (Option.some Jvm.ClassFile.FieldType.int)) ∈ UW := uw_in 222 (by decide +kernel) (by decide +kernel)
theorem q_187 : (Jvm.Cond.methodLink "NeverBothDoors$Text" (19 : Nat) ({ cls := "NeverBothDoors$Text", name := "signAt", desc := "(I)I" } : Jvm.MethodName)) ∈ UW := uw_in 223 (by decide +kernel) (by decide +kernel)
theorem q_188 : (Jvm.Cond.instanceMethod ({ cls := "NeverBothDoors$Text", name := "signAt", desc := "(I)I" } : Jvm.MethodName)) ∈ UW := uw_in 224 (by decide +kernel) (by decide +kernel)
theorem q_189 : (Jvm.Cond.selects "NeverBothDoors$Text" ({ cls := "NeverBothDoors$Text", name := "signAt", desc := "(I)I" } : Jvm.MethodName) ({ cls := "NeverBothDoors$Text", name := "signAt", desc := "(I)I" } : Jvm.MethodName)) ∈ UW := uw_in 225 (by decide +kernel) (by decide +kernel)
theorem q_190 : (Jvm.Cond.code ({ cls := "NeverBothDoors$Text", name := "signAt", desc := "(I)I" } : Jvm.MethodName) prog_3_method_3_code (2 : Nat) (Option.some Jvm.ClassFile.FieldType.int)) ∈ UW := uw_in 226 (by decide +kernel) (by decide +kernel)
theorem q_191 : (Jvm.Cond.methodLink "NeverBothDoors$Text" (29 : Nat) ({ cls := "NeverBothDoors$Text", name := "shapeBehind", desc := "(I)Ljava/lang/String;" } : Jvm.MethodName)) ∈ UW := uw_in 227 (by decide +kernel) (by decide +kernel)
theorem q_192 : (Jvm.Cond.static ({ cls := "NeverBothDoors$Text", name := "shapeBehind", desc := "(I)Ljava/lang/String;" } : Jvm.MethodName)) ∈ UW := uw_in 228 (by decide +kernel) (by decide +kernel)
theorem q_193 : (Jvm.Cond.code ({ cls := "NeverBothDoors$Text", name := "shapeBehind", desc := "(I)Ljava/lang/String;" } : Jvm.MethodName) prog_3_method_8_code (1 : Nat) (Option.some (Jvm.ClassFile.FieldType.object "java/lang/String"))) ∈ UW := uw_in 229 (by decide +kernel) (by decide +kernel)
theorem q_199 : (Jvm.Cond.methodLink "NeverBothDoors$Text" (33 : Nat) ({ cls := "java/lang/String", name := "isEmpty", desc := "()Z" } : Jvm.MethodName)) ∈ UW := uw_in 235 (by decide +kernel) (by decide +kernel)
theorem q_200 : (Jvm.Cond.instanceMethod ({ cls := "java/lang/String", name := "isEmpty", desc := "()Z" } : Jvm.MethodName)) ∈ UW := uw_in 236 (by decide +kernel) (by decide +kernel)
theorem q_201 : (Jvm.Cond.selects "java/lang/String" ({ cls := "java/lang/String", name := "isEmpty", desc := "()Z" } : Jvm.MethodName) ({ cls := "java/lang/String", name := "isEmpty", desc := "()Z" } : Jvm.MethodName)) ∈ UW := uw_in 237 (by decide +kernel) (by decide +kernel)
theorem q_202 : (Jvm.Cond.code ({ cls := "java/lang/String", name := "isEmpty", desc := "()Z" } : Jvm.MethodName) prog_10_method_55_code (1 : Nat) (Option.some Jvm.ClassFile.FieldType.boolean)) ∈ UW := uw_in 238 (by decide +kernel) (by decide +kernel)
theorem q_203 : (Jvm.Cond.methodLink "NeverBothDoors$Text" (39 : Nat) ({ cls := "java/lang/String", name := "length", desc := "()I" } : Jvm.MethodName)) ∈ UW := uw_in 239 (by decide +kernel) (by decide +kernel)
theorem q_204 : (Jvm.Cond.instanceMethod ({ cls := "java/lang/String", name := "length", desc := "()I" } : Jvm.MethodName)) ∈ UW := uw_in 240 (by decide +kernel) (by decide +kernel)
theorem q_205 : (Jvm.Cond.selects "java/lang/String" ({ cls := "java/lang/String", name := "length", desc := "()I" } : Jvm.MethodName) ({ cls := "java/lang/String", name := "length", desc := "()I" } : Jvm.MethodName)) ∈ UW := uw_in 241 (by decide +kernel) (by decide +kernel)
theorem q_206 : (Jvm.Cond.code ({ cls := "java/lang/String", name := "length", desc := "()I" } : Jvm.MethodName) prog_10_method_54_code (1 : Nat) (Option.some Jvm.ClassFile.FieldType.int)) ∈ UW := uw_in 242 (by decide +kernel) (by decide +kernel)
theorem q_207 : (Jvm.Cond.methodLink "java/lang/String" (335 : Nat) ({ cls := "java/lang/String", name := "coder", desc := "()B" } : Jvm.MethodName)) ∈ UW := uw_in 243 (by decide +kernel) (by decide +kernel)
theorem q_208 : (Jvm.Cond.instanceMethod ({ cls := "java/lang/String", name := "coder", desc := "()B" } : Jvm.MethodName)) ∈ UW := uw_in 244 (by decide +kernel) (by decide +kernel)
theorem q_209 : (Jvm.Cond.selects "java/lang/String" ({ cls := "java/lang/String", name := "coder", desc := "()B" } : Jvm.MethodName) ({ cls := "java/lang/String", name := "coder", desc := "()B" } : Jvm.MethodName)) ∈ UW := uw_in 245 (by decide +kernel) (by decide +kernel)
theorem q_210 : (Jvm.Cond.code ({ cls := "java/lang/String", name := "coder", desc := "()B" } : Jvm.MethodName) prog_10_method_152_code (1 : Nat) (Option.some Jvm.ClassFile.FieldType.byte)) ∈ UW := uw_in 246 (by decide +kernel) (by decide +kernel)
theorem q_211 : (Jvm.Cond.fieldLink "java/lang/String" (38 : Nat) "java/lang/String" "COMPACT_STRINGS" "Z") ∈ UW := uw_in 247 (by decide +kernel) (by decide +kernel)
theorem q_213 : (Jvm.Cond.methodLink "NeverBothDoors$Text" (42 : Nat) ({ cls := "java/lang/String", name := "charAt", desc := "(I)C" } : Jvm.MethodName)) ∈ UW := uw_in 249 (by decide +kernel) (by decide +kernel)
theorem q_214 : (Jvm.Cond.instanceMethod ({ cls := "java/lang/String", name := "charAt", desc := "(I)C" } : Jvm.MethodName)) ∈ UW := uw_in 250 (by decide +kernel) (by decide +kernel)
theorem q_215 : (Jvm.Cond.selects "java/lang/String" ({ cls := "java/lang/String", name := "charAt", desc := "(I)C" } : Jvm.MethodName) ({ cls := "java/lang/String", name := "charAt", desc := "(I)C" } : Jvm.MethodName)) ∈ UW := uw_in 251 (by decide +kernel) (by decide +kernel)
theorem q_216 : (Jvm.Cond.code ({ cls := "java/lang/String", name := "charAt", desc := "(I)C" } : Jvm.MethodName) prog_10_method_56_code (2 : Nat) (Option.some Jvm.ClassFile.FieldType.char)) ∈ UW := uw_in 252 (by decide +kernel) (by decide +kernel)
theorem q_217 : (Jvm.Cond.methodLink "java/lang/String" (492 : Nat) ({ cls := "java/lang/String", name := "isLatin1", desc := "()Z" } : Jvm.MethodName)) ∈ UW := uw_in 253 (by decide +kernel) (by decide +kernel)
theorem q_218 : (Jvm.Cond.instanceMethod ({ cls := "java/lang/String", name := "isLatin1", desc := "()Z" } : Jvm.MethodName)) ∈ UW := uw_in 254 (by decide +kernel) (by decide +kernel)
theorem q_219 : (Jvm.Cond.selects "java/lang/String" ({ cls := "java/lang/String", name := "isLatin1", desc := "()Z" } : Jvm.MethodName) ({ cls := "java/lang/String", name := "isLatin1", desc := "()Z" } : Jvm.MethodName)) ∈ UW := uw_in 255 (by decide +kernel) (by decide +kernel)
theorem q_220 : (Jvm.Cond.code ({ cls := "java/lang/String", name := "isLatin1", desc := "()Z" } : Jvm.MethodName) prog_10_method_154_code (1 : Nat) (Option.some Jvm.ClassFile.FieldType.boolean)) ∈ UW := uw_in 256 (by decide +kernel) (by decide +kernel)
theorem q_221 : (Jvm.Cond.methodLink "java/lang/String" (495 : Nat) ({ cls := "java/lang/StringLatin1", name := "charAt", desc := "([BI)C" } : Jvm.MethodName)) ∈ UW := uw_in 257 (by decide +kernel) (by decide +kernel)
theorem q_222 : (Jvm.Cond.static ({ cls := "java/lang/StringLatin1", name := "charAt", desc := "([BI)C" } : Jvm.MethodName)) ∈ UW := uw_in 258 (by decide +kernel) (by decide +kernel)
theorem q_223 : (Jvm.Cond.code ({ cls := "java/lang/StringLatin1", name := "charAt", desc := "([BI)C" } : Jvm.MethodName) prog_11_method_2_code (2 : Nat) (Option.some Jvm.ClassFile.FieldType.char)) ∈ UW := uw_in 259 (by decide +kernel) (by decide +kernel)
theorem q_224 : (Jvm.Cond.methodLink "java/lang/StringLatin1" (9 : Nat) ({ cls := "java/lang/String", name := "checkIndex", desc := "(II)V" } : Jvm.MethodName)) ∈ UW := uw_in 260 (by decide +kernel) (by decide +kernel)
theorem q_225 : (Jvm.Cond.static ({ cls := "java/lang/String", name := "checkIndex", desc := "(II)V" } : Jvm.MethodName)) ∈ UW := uw_in 261 (by decide +kernel) (by decide +kernel)
theorem q_226 : (Jvm.Cond.code ({ cls := "java/lang/String", name := "checkIndex", desc := "(II)V" } : Jvm.MethodName) prog_10_method_155_code (2 : Nat) (Option.none : Option Jvm.ClassFile.FieldType)) ∈ UW := uw_in 262 (by decide +kernel) (by decide +kernel)
theorem q_227 : (Jvm.Cond.fieldLink "java/lang/String" (1053 : Nat) "jdk/internal/util/Preconditions" "SIOOBE_FORMATTER" "Ljava/util/function/BiFunction;") ∈ UW := uw_in 263 (by decide +kernel) (by decide +kernel)
theorem q_229 : (Jvm.Cond.methodLink "java/lang/String" (1059 : Nat) ({ cls := "jdk/internal/util/Preconditions", name := "checkIndex", desc := "(IILjava/util/function/BiFunction;)I" } : Jvm.MethodName)) ∈ UW := uw_in 265 (by decide +kernel) (by decide +kernel)
theorem q_230 : (Jvm.Cond.static ({ cls := "jdk/internal/util/Preconditions", name := "checkIndex", desc := "(IILjava/util/function/BiFunction;)I" } : Jvm.MethodName)) ∈ UW := uw_in 266 (by decide +kernel) (by decide +kernel)
theorem q_231 : (Jvm.Cond.code ({ cls := "jdk/internal/util/Preconditions", name := "checkIndex", desc := "(IILjava/util/function/BiFunction;)I" } : Jvm.MethodName) prog_15_method_11_code (3 : Nat) (Option.some Jvm.ClassFile.FieldType.int)) ∈ UW := uw_in 267 (by decide +kernel) (by decide +kernel)
theorem q_232 : (Jvm.Cond.methodLink "java/lang/String" (498 : Nat) ({ cls := "java/lang/StringUTF16", name := "charAt", desc := "([BI)C" } : Jvm.MethodName)) ∈ UW := uw_in 268 (by decide +kernel) (by decide +kernel)
theorem q_233 : (Jvm.Cond.static ({ cls := "java/lang/StringUTF16", name := "charAt", desc := "([BI)C" } : Jvm.MethodName)) ∈ UW := uw_in 269 (by decide +kernel) (by decide +kernel)
theorem q_234 : (Jvm.Cond.code ({ cls := "java/lang/StringUTF16", name := "charAt", desc := "([BI)C" } : Jvm.MethodName) prog_12_method_83_code (2 : Nat) (Option.some Jvm.ClassFile.FieldType.char)) ∈ UW := uw_in 270 (by decide +kernel) (by decide +kernel)
theorem q_235 : (Jvm.Cond.methodLink "java/lang/StringUTF16" (67 : Nat) ({ cls := "java/lang/StringUTF16", name := "checkIndex", desc := "(I[B)V" } : Jvm.MethodName)) ∈ UW := uw_in 271 (by decide +kernel) (by decide +kernel)
theorem q_236 : (Jvm.Cond.static ({ cls := "java/lang/StringUTF16", name := "checkIndex", desc := "(I[B)V" } : Jvm.MethodName)) ∈ UW := uw_in 272 (by decide +kernel) (by decide +kernel)
theorem q_237 : (Jvm.Cond.code ({ cls := "java/lang/StringUTF16", name := "checkIndex", desc := "(I[B)V" } : Jvm.MethodName) prog_12_method_91_code (2 : Nat) (Option.none : Option Jvm.ClassFile.FieldType)) ∈ UW := uw_in 273 (by decide +kernel) (by decide +kernel)
theorem q_238 : (Jvm.Cond.methodLink "java/lang/StringUTF16" (48 : Nat) ({ cls := "java/lang/StringUTF16", name := "length", desc := "([B)I" } : Jvm.MethodName)) ∈ UW := uw_in 274 (by decide +kernel) (by decide +kernel)
theorem q_239 : (Jvm.Cond.static ({ cls := "java/lang/StringUTF16", name := "length", desc := "([B)I" } : Jvm.MethodName)) ∈ UW := uw_in 275 (by decide +kernel) (by decide +kernel)
theorem q_240 : (Jvm.Cond.code ({ cls := "java/lang/StringUTF16", name := "length", desc := "([B)I" } : Jvm.MethodName) prog_12_method_6_code (1 : Nat) (Option.some Jvm.ClassFile.FieldType.int)) ∈ UW := uw_in 276 (by decide +kernel) (by decide +kernel)
theorem q_241 : (Jvm.Cond.methodLink "java/lang/StringUTF16" (414 : Nat) ({ cls := "java/lang/String", name := "checkIndex", desc := "(II)V" } : Jvm.MethodName)) ∈ UW := uw_in 277 (by decide +kernel) (by decide +kernel)
theorem q_242 : (Jvm.Cond.methodLink "java/lang/StringUTF16" (71 : Nat) ({ cls := "java/lang/StringUTF16", name := "getChar", desc := "([BI)C" } : Jvm.MethodName)) ∈ UW := uw_in 278 (by decide +kernel) (by decide +kernel)
theorem q_243 : (Jvm.Cond.static ({ cls := "java/lang/StringUTF16", name := "getChar", desc := "([BI)C" } : Jvm.MethodName)) ∈ UW := uw_in 279 (by decide +kernel) (by decide +kernel)
theorem q_244 : (Jvm.Cond.code ({ cls := "java/lang/StringUTF16", name := "getChar", desc := "([BI)C" } : Jvm.MethodName) prog_12_method_5_code (2 : Nat) (Option.some Jvm.ClassFile.FieldType.char)) ∈ UW := uw_in 280 (by decide +kernel) (by decide +kernel)
theorem q_245 : (Jvm.Cond.fieldLink "java/lang/StringUTF16" (44 : Nat) "java/lang/StringUTF16" "$assertionsDisabled" "Z") ∈ UW := uw_in 281 (by decide +kernel) (by decide +kernel)
theorem q_247 : (Jvm.Cond.fieldLink "java/lang/StringUTF16" (59 : Nat) "java/lang/StringUTF16" "HI_BYTE_SHIFT" "I") ∈ UW := uw_in 283 (by decide +kernel) (by decide +kernel)
theorem q_249 : (Jvm.Cond.fieldLink "java/lang/StringUTF16" (63 : Nat) "java/lang/StringUTF16" "LO_BYTE_SHIFT" "I") ∈ UW := uw_in 285 (by decide +kernel) (by decide +kernel)
theorem q_251 : (Jvm.Cond.methodLink "NeverBothDoors$Text" (46 : Nat) ({ cls := "NeverBothDoors$Text", name := "isDue", desc := "(CI)Z" } : Jvm.MethodName)) ∈ UW := uw_in 287 (by decide +kernel) (by decide +kernel)
theorem q_253 : (Jvm.Cond.instanceMethod ({ cls := "NeverBothDoors$Text", name := "isDue", desc := "(CI)Z" } : Jvm.MethodName)) ∈ UW := uw_in 289 (by decide +kernel) (by decide +kernel)
theorem q_254 : (Jvm.Cond.code ({ cls := "NeverBothDoors$Text", name := "isDue", desc := "(CI)Z" } : Jvm.MethodName) prog_3_method_9_code (3 : Nat) (Option.some Jvm.ClassFile.FieldType.boolean)) ∈ UW := uw_in 290 (by decide +kernel) (by decide +kernel)
theorem q_255 : (Jvm.Cond.methodLink "NeverBothDoors$Text" (23 : Nat) ({ cls := "NeverBothDoors$Text", name := "digitAt", desc := "(I)I" } : Jvm.MethodName)) ∈ UW := uw_in 291 (by decide +kernel) (by decide +kernel)
theorem q_256 : (Jvm.Cond.instanceMethod ({ cls := "NeverBothDoors$Text", name := "digitAt", desc := "(I)I" } : Jvm.MethodName)) ∈ UW := uw_in 292 (by decide +kernel) (by decide +kernel)
theorem q_257 : (Jvm.Cond.selects "NeverBothDoors$Text" ({ cls := "NeverBothDoors$Text", name := "digitAt", desc := "(I)I" } : Jvm.MethodName) ({ cls := "NeverBothDoors$Text", name := "digitAt", desc := "(I)I" } : Jvm.MethodName)) ∈ UW := uw_in 293 (by decide +kernel) (by decide +kernel)
theorem q_258 : (Jvm.Cond.code ({ cls := "NeverBothDoors$Text", name := "digitAt", desc := "(I)I" } : Jvm.MethodName) prog_3_method_4_code (3 : Nat) (Option.some Jvm.ClassFile.FieldType.int)) ∈ UW := uw_in 294 (by decide +kernel) (by decide +kernel)
theorem q_260 : (Jvm.Cond.static ({ cls := "NeverBothDoors", name := "kindOf", desc := "(I)I" } : Jvm.MethodName)) ∈ UW := uw_in 296 (by decide +kernel) (by decide +kernel)
theorem q_261 : (Jvm.Cond.code ({ cls := "NeverBothDoors", name := "kindOf", desc := "(I)I" } : Jvm.MethodName) prog_1_method_37_code (1 : Nat) (Option.some Jvm.ClassFile.FieldType.int)) ∈ UW := uw_in 297 (by decide +kernel) (by decide +kernel)
theorem q_262 : (Jvm.Cond.methodLink "NeverBothDoors" (136 : Nat) ({ cls := "NeverBothDoors$Burrow", name := "become", desc := "(LNeverBothDoors$Burrow;)V" } : Jvm.MethodName)) ∈ UW := uw_in 298 (by decide +kernel) (by decide +kernel)
theorem q_263 : (Jvm.Cond.instanceMethod ({ cls := "NeverBothDoors$Burrow", name := "become", desc := "(LNeverBothDoors$Burrow;)V" } : Jvm.MethodName)) ∈ UW := uw_in 299 (by decide +kernel) (by decide +kernel)
theorem q_264 : (Jvm.Cond.selects "NeverBothDoors$Burrow" ({ cls := "NeverBothDoors$Burrow", name := "become", desc := "(LNeverBothDoors$Burrow;)V" } : Jvm.MethodName) ({ cls := "NeverBothDoors$Burrow", name := "become", desc := "(LNeverBothDoors$Burrow;)V" } : Jvm.MethodName)) ∈ UW := uw_in 300 (by decide +kernel) (by decide +kernel)
theorem q_265 : (Jvm.Cond.code ({ cls := "NeverBothDoors$Burrow", name := "become", desc := "(LNeverBothDoors$Burrow;)V" } : Jvm.MethodName) prog_2_method_2_code (2 : Nat) (Option.none : Option Jvm.ClassFile.FieldType)) ∈ UW := uw_in 301 (by decide +kernel) (by decide +kernel)
theorem q_266 : (Jvm.Cond.methodLink "NeverBothDoors$Burrow" (67 : Nat) ({ cls := "java/lang/System", name := "arraycopy", desc := "(Ljava/lang/Object;ILjava/lang/Object;II)V" } : Jvm.MethodName)) ∈ UW := uw_in 302 (by decide +kernel) (by decide +kernel)
theorem q_267 : (Jvm.Cond.static ({ cls := "java/lang/System", name := "arraycopy", desc := "(Ljava/lang/Object;ILjava/lang/Object;II)V" } : Jvm.MethodName)) ∈ UW := uw_in 303 (by decide +kernel) (by decide +kernel)
theorem q_268 : (Jvm.Cond.native ({ cls := "java/lang/System", name := "arraycopy", desc := "(Ljava/lang/Object;ILjava/lang/Object;II)V" } : Jvm.MethodName)) ∈ UW := uw_in 304 (by decide +kernel) (by decide +kernel)
theorem q_269 : (Jvm.Cond.methodLink "NeverBothDoors" (211 : Nat) ({ cls := "NeverBothDoors", name := "comesToMind", desc := "(I)Z" } : Jvm.MethodName)) ∈ UW := uw_in 305 (by decide +kernel) (by decide +kernel)
theorem q_271 : (Jvm.Cond.instanceMethod ({ cls := "NeverBothDoors", name := "comesToMind", desc := "(I)Z" } : Jvm.MethodName)) ∈ UW := uw_in 307 (by decide +kernel) (by decide +kernel)
theorem q_272 : (Jvm.Cond.code ({ cls := "NeverBothDoors", name := "comesToMind", desc := "(I)Z" } : Jvm.MethodName) prog_1_method_36_code (5 : Nat) (Option.some Jvm.ClassFile.FieldType.boolean)) ∈ UW := uw_in 308 (by decide +kernel) (by decide +kernel)
theorem q_273 : (Jvm.Cond.methodLink "NeverBothDoors" (217 : Nat) ({ cls := "NeverBothDoors$Text", name := "digitAt", desc := "(I)I" } : Jvm.MethodName)) ∈ UW := uw_in 309 (by decide +kernel) (by decide +kernel)
theorem q_274 : (Jvm.Cond.methodLink "NeverBothDoors" (220 : Nat) ({ cls := "NeverBothDoors$Text", name := "signAt", desc := "(I)I" } : Jvm.MethodName)) ∈ UW := uw_in 310 (by decide +kernel) (by decide +kernel)
theorem q_275 : (Jvm.Cond.methodLink "NeverBothDoors" (223 : Nat) ({ cls := "NeverBothDoors$Text", name := "numberAt", desc := "(I)I" } : Jvm.MethodName)) ∈ UW := uw_in 311 (by decide +kernel) (by decide +kernel)
theorem q_276 : (Jvm.Cond.instanceMethod ({ cls := "NeverBothDoors$Text", name := "numberAt", desc := "(I)I" } : Jvm.MethodName)) ∈ UW := uw_in 312 (by decide +kernel) (by decide +kernel)
theorem q_277 : (Jvm.Cond.selects "NeverBothDoors$Text" ({ cls := "NeverBothDoors$Text", name := "numberAt", desc := "(I)I" } : Jvm.MethodName) ({ cls := "NeverBothDoors$Text", name := "numberAt", desc := "(I)I" } : Jvm.MethodName)) ∈ UW := uw_in 313 (by decide +kernel) (by decide +kernel)
theorem q_278 : (Jvm.Cond.code ({ cls := "NeverBothDoors$Text", name := "numberAt", desc := "(I)I" } : Jvm.MethodName) prog_3_method_5_code (4 : Nat) (Option.some Jvm.ClassFile.FieldType.int)) ∈ UW := uw_in 314 (by decide +kernel) (by decide +kernel)
theorem q_279 : (Jvm.Cond.methodLink "NeverBothDoors" (226 : Nat) ({ cls := "NeverBothDoors$Burrow", name := "tellAir", desc := "(II)Z" } : Jvm.MethodName)) ∈ UW := uw_in 315 (by decide +kernel) (by decide +kernel)
theorem q_280 : (Jvm.Cond.instanceMethod ({ cls := "NeverBothDoors$Burrow", name := "tellAir", desc := "(II)Z" } : Jvm.MethodName)) ∈ UW := uw_in 316 (by decide +kernel) (by decide +kernel)
theorem q_281 : (Jvm.Cond.selects "NeverBothDoors$Burrow" ({ cls := "NeverBothDoors$Burrow", name := "tellAir", desc := "(II)Z" } : Jvm.MethodName) ({ cls := "NeverBothDoors$Burrow", name := "tellAir", desc := "(II)Z" } : Jvm.MethodName)) ∈ UW := uw_in 317 (by decide +kernel) (by decide +kernel)
theorem q_282 : (Jvm.Cond.code ({ cls := "NeverBothDoors$Burrow", name := "tellAir", desc := "(II)Z" } : Jvm.MethodName) prog_2_method_5_code (3 : Nat) (Option.some Jvm.ClassFile.FieldType.boolean)) ∈ UW := uw_in 318 (by decide +kernel) (by decide +kernel)
theorem q_284 : (Jvm.Cond.static ({ cls := "NeverBothDoors", name := "isRoom", desc := "(I)Z" } : Jvm.MethodName)) ∈ UW := uw_in 320 (by decide +kernel) (by decide +kernel)
theorem q_285 : (Jvm.Cond.code ({ cls := "NeverBothDoors", name := "isRoom", desc := "(I)Z" } : Jvm.MethodName) prog_1_method_31_code (1 : Nat) (Option.some Jvm.ClassFile.FieldType.boolean)) ∈ UW := uw_in 321 (by decide +kernel) (by decide +kernel)
theorem q_286 : (Jvm.Cond.methodLink "NeverBothDoors" (229 : Nat) ({ cls := "NeverBothDoors$Burrow", name := "tellLeak", desc := "(II)Z" } : Jvm.MethodName)) ∈ UW := uw_in 322 (by decide +kernel) (by decide +kernel)
theorem q_287 : (Jvm.Cond.instanceMethod ({ cls := "NeverBothDoors$Burrow", name := "tellLeak", desc := "(II)Z" } : Jvm.MethodName)) ∈ UW := uw_in 323 (by decide +kernel) (by decide +kernel)
theorem q_288 : (Jvm.Cond.selects "NeverBothDoors$Burrow" ({ cls := "NeverBothDoors$Burrow", name := "tellLeak", desc := "(II)Z" } : Jvm.MethodName) ({ cls := "NeverBothDoors$Burrow", name := "tellLeak", desc := "(II)Z" } : Jvm.MethodName)) ∈ UW := uw_in 324 (by decide +kernel) (by decide +kernel)
theorem q_289 : (Jvm.Cond.code ({ cls := "NeverBothDoors$Burrow", name := "tellLeak", desc := "(II)Z" } : Jvm.MethodName) prog_2_method_6_code (3 : Nat) (Option.some Jvm.ClassFile.FieldType.boolean)) ∈ UW := uw_in 325 (by decide +kernel) (by decide +kernel)
theorem q_290 : (Jvm.Cond.methodLink "NeverBothDoors" (232 : Nat) ({ cls := "NeverBothDoors$Burrow", name := "tellLock", desc := "(IIII)Z" } : Jvm.MethodName)) ∈ UW := uw_in 326 (by decide +kernel) (by decide +kernel)
theorem q_291 : (Jvm.Cond.instanceMethod ({ cls := "NeverBothDoors$Burrow", name := "tellLock", desc := "(IIII)Z" } : Jvm.MethodName)) ∈ UW := uw_in 327 (by decide +kernel) (by decide +kernel)
theorem q_292 : (Jvm.Cond.selects "NeverBothDoors$Burrow" ({ cls := "NeverBothDoors$Burrow", name := "tellLock", desc := "(IIII)Z" } : Jvm.MethodName) ({ cls := "NeverBothDoors$Burrow", name := "tellLock", desc := "(IIII)Z" } : Jvm.MethodName)) ∈ UW := uw_in 328 (by decide +kernel) (by decide +kernel)
theorem q_293 : (Jvm.Cond.code ({ cls := "NeverBothDoors$Burrow", name := "tellLock", desc := "(IIII)Z" } : Jvm.MethodName) prog_2_method_7_code (5 : Nat) (Option.some Jvm.ClassFile.FieldType.boolean)) ∈ UW := uw_in 329 (by decide +kernel) (by decide +kernel)
theorem q_295 : (Jvm.Cond.static ({ cls := "NeverBothDoors", name := "isPlace", desc := "(I)Z" } : Jvm.MethodName)) ∈ UW := uw_in 331 (by decide +kernel) (by decide +kernel)
theorem q_296 : (Jvm.Cond.code ({ cls := "NeverBothDoors", name := "isPlace", desc := "(I)Z" } : Jvm.MethodName) prog_1_method_32_code (1 : Nat) (Option.some Jvm.ClassFile.FieldType.boolean)) ∈ UW := uw_in 332 (by decide +kernel) (by decide +kernel)
theorem q_297 : (Jvm.Cond.methodLink "NeverBothDoors$Burrow" (80 : Nat) ({ cls := "java/lang/Math", name := "min", desc := "(II)I" } : Jvm.MethodName)) ∈ UW := uw_in 333 (by decide +kernel) (by decide +kernel)
theorem q_298 : (Jvm.Cond.static ({ cls := "java/lang/Math", name := "min", desc := "(II)I" } : Jvm.MethodName)) ∈ UW := uw_in 334 (by decide +kernel) (by decide +kernel)
theorem q_299 : (Jvm.Cond.code ({ cls := "java/lang/Math", name := "min", desc := "(II)I" } : Jvm.MethodName) prog_9_method_69_code (2 : Nat) (Option.some Jvm.ClassFile.FieldType.int)) ∈ UW := uw_in 335 (by decide +kernel) (by decide +kernel)
theorem q_300 : (Jvm.Cond.methodLink "NeverBothDoors$Burrow" (86 : Nat) ({ cls := "java/lang/Math", name := "max", desc := "(II)I" } : Jvm.MethodName)) ∈ UW := uw_in 336 (by decide +kernel) (by decide +kernel)
theorem q_301 : (Jvm.Cond.static ({ cls := "java/lang/Math", name := "max", desc := "(II)I" } : Jvm.MethodName)) ∈ UW := uw_in 337 (by decide +kernel) (by decide +kernel)
theorem q_302 : (Jvm.Cond.code ({ cls := "java/lang/Math", name := "max", desc := "(II)I" } : Jvm.MethodName) prog_9_method_65_code (2 : Nat) (Option.some Jvm.ClassFile.FieldType.int)) ∈ UW := uw_in 338 (by decide +kernel) (by decide +kernel)
theorem q_303 : (Jvm.Cond.methodLink "NeverBothDoors" (236 : Nat) ({ cls := "NeverBothDoors", name := "kindOf", desc := "(I)I" } : Jvm.MethodName)) ∈ UW := uw_in 339 (by decide +kernel) (by decide +kernel)
theorem q_304 : (Jvm.Cond.methodLink "NeverBothDoors" (239 : Nat) ({ cls := "NeverBothDoors$Burrow", name := "tellPerson", desc := "(IIII)Z" } : Jvm.MethodName)) ∈ UW := uw_in 340 (by decide +kernel) (by decide +kernel)
theorem q_305 : (Jvm.Cond.instanceMethod ({ cls := "NeverBothDoors$Burrow", name := "tellPerson", desc := "(IIII)Z" } : Jvm.MethodName)) ∈ UW := uw_in 341 (by decide +kernel) (by decide +kernel)
theorem q_306 : (Jvm.Cond.selects "NeverBothDoors$Burrow" ({ cls := "NeverBothDoors$Burrow", name := "tellPerson", desc := "(IIII)Z" } : Jvm.MethodName) ({ cls := "NeverBothDoors$Burrow", name := "tellPerson", desc := "(IIII)Z" } : Jvm.MethodName)) ∈ UW := uw_in 342 (by decide +kernel) (by decide +kernel)
theorem q_307 : (Jvm.Cond.code ({ cls := "NeverBothDoors$Burrow", name := "tellPerson", desc := "(IIII)Z" } : Jvm.MethodName) prog_2_method_8_code (5 : Nat) (Option.some Jvm.ClassFile.FieldType.boolean)) ∈ UW := uw_in 343 (by decide +kernel) (by decide +kernel)
theorem q_308 : (Jvm.Cond.methodLink "NeverBothDoors" (242 : Nat) ({ cls := "NeverBothDoors$Burrow", name := "tellSuits", desc := "(II)Z" } : Jvm.MethodName)) ∈ UW := uw_in 344 (by decide +kernel) (by decide +kernel)
theorem q_309 : (Jvm.Cond.instanceMethod ({ cls := "NeverBothDoors$Burrow", name := "tellSuits", desc := "(II)Z" } : Jvm.MethodName)) ∈ UW := uw_in 345 (by decide +kernel) (by decide +kernel)
theorem q_310 : (Jvm.Cond.selects "NeverBothDoors$Burrow" ({ cls := "NeverBothDoors$Burrow", name := "tellSuits", desc := "(II)Z" } : Jvm.MethodName) ({ cls := "NeverBothDoors$Burrow", name := "tellSuits", desc := "(II)Z" } : Jvm.MethodName)) ∈ UW := uw_in 346 (by decide +kernel) (by decide +kernel)
theorem q_311 : (Jvm.Cond.code ({ cls := "NeverBothDoors$Burrow", name := "tellSuits", desc := "(II)Z" } : Jvm.MethodName) prog_2_method_9_code (3 : Nat) (Option.some Jvm.ClassFile.FieldType.boolean)) ∈ UW := uw_in 347 (by decide +kernel) (by decide +kernel)
theorem q_312 : (Jvm.Cond.methodLink "NeverBothDoors" (214 : Nat) ({ cls := "NeverBothDoors$Text", name := "behindStatement", desc := "(I)I" } : Jvm.MethodName)) ∈ UW := uw_in 348 (by decide +kernel) (by decide +kernel)
theorem q_313 : (Jvm.Cond.arrayClass Jvm.ClassFile.FieldType.byte) ∈ UW := uw_in 349 (by decide +kernel) (by decide +kernel)
theorem q_314 : (Jvm.Cond.methodLink "NeverBothDoorsLaw" (23 : Nat) ({ cls := "NeverBothDoors", name := "room", desc := "(II)I" } : Jvm.MethodName)) ∈ UW := uw_in 350 (by decide +kernel) (by decide +kernel)
theorem q_315 : (Jvm.Cond.instanceMethod ({ cls := "NeverBothDoors", name := "room", desc := "(II)I" } : Jvm.MethodName)) ∈ UW := uw_in 351 (by decide +kernel) (by decide +kernel)
theorem q_316 : (Jvm.Cond.selects "NeverBothDoors" ({ cls := "NeverBothDoors", name := "room", desc := "(II)I" } : Jvm.MethodName) ({ cls := "NeverBothDoors", name := "room", desc := "(II)I" } : Jvm.MethodName)) ∈ UW := uw_in 352 (by decide +kernel) (by decide +kernel)
theorem q_317 : (Jvm.Cond.code ({ cls := "NeverBothDoors", name := "room", desc := "(II)I" } : Jvm.MethodName) prog_1_method_4_code (3 : Nat) (Option.some Jvm.ClassFile.FieldType.int)) ∈ UW := uw_in 353 (by decide +kernel) (by decide +kernel)
theorem q_318 : (Jvm.Cond.methodLink "NeverBothDoors" (66 : Nat) ({ cls := "NeverBothDoors", name := "isRoom", desc := "(I)Z" } : Jvm.MethodName)) ∈ UW := uw_in 354 (by decide +kernel) (by decide +kernel)
theorem q_319 : (Jvm.Cond.methodLink "NeverBothDoors" (76 : Nat) ({ cls := "NeverBothDoors$Burrow", name := "peopleAt", desc := "(I)I" } : Jvm.MethodName)) ∈ UW := uw_in 355 (by decide +kernel) (by decide +kernel)
theorem q_320 : (Jvm.Cond.instanceMethod ({ cls := "NeverBothDoors$Burrow", name := "peopleAt", desc := "(I)I" } : Jvm.MethodName)) ∈ UW := uw_in 356 (by decide +kernel) (by decide +kernel)
theorem q_321 : (Jvm.Cond.selects "NeverBothDoors$Burrow" ({ cls := "NeverBothDoors$Burrow", name := "peopleAt", desc := "(I)I" } : Jvm.MethodName) ({ cls := "NeverBothDoors$Burrow", name := "peopleAt", desc := "(I)I" } : Jvm.MethodName)) ∈ UW := uw_in 357 (by decide +kernel) (by decide +kernel)
theorem q_322 : (Jvm.Cond.code ({ cls := "NeverBothDoors$Burrow", name := "peopleAt", desc := "(I)I" } : Jvm.MethodName) prog_2_method_10_code (4 : Nat) (Option.some Jvm.ClassFile.FieldType.int)) ∈ UW := uw_in 358 (by decide +kernel) (by decide +kernel)
theorem q_323 : (Jvm.Cond.methodLink "NeverBothDoors" (79 : Nat) ({ cls := "NeverBothDoors$Burrow", name := "breathIn", desc := "(I)I" } : Jvm.MethodName)) ∈ UW := uw_in 359 (by decide +kernel) (by decide +kernel)
theorem q_324 : (Jvm.Cond.instanceMethod ({ cls := "NeverBothDoors$Burrow", name := "breathIn", desc := "(I)I" } : Jvm.MethodName)) ∈ UW := uw_in 360 (by decide +kernel) (by decide +kernel)
theorem q_325 : (Jvm.Cond.selects "NeverBothDoors$Burrow" ({ cls := "NeverBothDoors$Burrow", name := "breathIn", desc := "(I)I" } : Jvm.MethodName) ({ cls := "NeverBothDoors$Burrow", name := "breathIn", desc := "(I)I" } : Jvm.MethodName)) ∈ UW := uw_in 361 (by decide +kernel) (by decide +kernel)
theorem q_326 : (Jvm.Cond.code ({ cls := "NeverBothDoors$Burrow", name := "breathIn", desc := "(I)I" } : Jvm.MethodName) prog_2_method_12_code (5 : Nat) (Option.some Jvm.ClassFile.FieldType.int)) ∈ UW := uw_in 362 (by decide +kernel) (by decide +kernel)
theorem q_327 : (Jvm.Cond.methodLink "NeverBothDoors$Burrow" (92 : Nat) ({ cls := "NeverBothDoors$Burrow", name := "peopleAt", desc := "(I)I" } : Jvm.MethodName)) ∈ UW := uw_in 363 (by decide +kernel) (by decide +kernel)
theorem q_329 : (Jvm.Cond.static ({ cls := "NeverBothDoors", name := "breathOfKind", desc := "(IZ)I" } : Jvm.MethodName)) ∈ UW := uw_in 365 (by decide +kernel) (by decide +kernel)
theorem q_330 : (Jvm.Cond.code ({ cls := "NeverBothDoors", name := "breathOfKind", desc := "(IZ)I" } : Jvm.MethodName) prog_1_method_38_code (2 : Nat) (Option.some Jvm.ClassFile.FieldType.int)) ∈ UW := uw_in 366 (by decide +kernel) (by decide +kernel)
theorem q_331 : (Jvm.Cond.methodLink "NeverBothDoorsLaw" (28 : Nat) ({ cls := "NeverBothDoors", name := "lock", desc := "(II)I" } : Jvm.MethodName)) ∈ UW := uw_in 367 (by decide +kernel) (by decide +kernel)
theorem q_332 : (Jvm.Cond.instanceMethod ({ cls := "NeverBothDoors", name := "lock", desc := "(II)I" } : Jvm.MethodName)) ∈ UW := uw_in 368 (by decide +kernel) (by decide +kernel)
theorem q_333 : (Jvm.Cond.selects "NeverBothDoors" ({ cls := "NeverBothDoors", name := "lock", desc := "(II)I" } : Jvm.MethodName) ({ cls := "NeverBothDoors", name := "lock", desc := "(II)I" } : Jvm.MethodName)) ∈ UW := uw_in 369 (by decide +kernel) (by decide +kernel)
theorem q_334 : (Jvm.Cond.code ({ cls := "NeverBothDoors", name := "lock", desc := "(II)I" } : Jvm.MethodName) prog_1_method_5_code (3 : Nat) (Option.some Jvm.ClassFile.FieldType.int)) ∈ UW := uw_in 370 (by decide +kernel) (by decide +kernel)
theorem q_335 : (Jvm.Cond.methodLink "NeverBothDoors" (82 : Nat) ({ cls := "NeverBothDoors$Burrow", name := "hasLock", desc := "(I)Z" } : Jvm.MethodName)) ∈ UW := uw_in 371 (by decide +kernel) (by decide +kernel)
theorem q_336 : (Jvm.Cond.instanceMethod ({ cls := "NeverBothDoors$Burrow", name := "hasLock", desc := "(I)Z" } : Jvm.MethodName)) ∈ UW := uw_in 372 (by decide +kernel) (by decide +kernel)
theorem q_337 : (Jvm.Cond.selects "NeverBothDoors$Burrow" ({ cls := "NeverBothDoors$Burrow", name := "hasLock", desc := "(I)Z" } : Jvm.MethodName) ({ cls := "NeverBothDoors$Burrow", name := "hasLock", desc := "(I)Z" } : Jvm.MethodName)) ∈ UW := uw_in 373 (by decide +kernel) (by decide +kernel)
theorem q_338 : (Jvm.Cond.code ({ cls := "NeverBothDoors$Burrow", name := "hasLock", desc := "(I)Z" } : Jvm.MethodName) prog_2_method_3_code (2 : Nat) (Option.some Jvm.ClassFile.FieldType.boolean)) ∈ UW := uw_in 374 (by decide +kernel) (by decide +kernel)
theorem q_339 : (Jvm.Cond.methodLink "NeverBothDoorsLaw" (32 : Nat) ({ cls := "NeverBothDoors", name := "person", desc := "(II)I" } : Jvm.MethodName)) ∈ UW := uw_in 375 (by decide +kernel) (by decide +kernel)
theorem q_340 : (Jvm.Cond.instanceMethod ({ cls := "NeverBothDoors", name := "person", desc := "(II)I" } : Jvm.MethodName)) ∈ UW := uw_in 376 (by decide +kernel) (by decide +kernel)
theorem q_341 : (Jvm.Cond.selects "NeverBothDoors" ({ cls := "NeverBothDoors", name := "person", desc := "(II)I" } : Jvm.MethodName) ({ cls := "NeverBothDoors", name := "person", desc := "(II)I" } : Jvm.MethodName)) ∈ UW := uw_in 377 (by decide +kernel) (by decide +kernel)
theorem q_342 : (Jvm.Cond.code ({ cls := "NeverBothDoors", name := "person", desc := "(II)I" } : Jvm.MethodName) prog_1_method_6_code (3 : Nat) (Option.some Jvm.ClassFile.FieldType.int)) ∈ UW := uw_in 378 (by decide +kernel) (by decide +kernel)
theorem q_343 : (Jvm.Cond.methodLink "NeverBothDoors" (100 : Nat) ({ cls := "NeverBothDoors$Burrow", name := "hasPerson", desc := "(I)Z" } : Jvm.MethodName)) ∈ UW := uw_in 379 (by decide +kernel) (by decide +kernel)
theorem q_344 : (Jvm.Cond.instanceMethod ({ cls := "NeverBothDoors$Burrow", name := "hasPerson", desc := "(I)Z" } : Jvm.MethodName)) ∈ UW := uw_in 380 (by decide +kernel) (by decide +kernel)
theorem q_345 : (Jvm.Cond.selects "NeverBothDoors$Burrow" ({ cls := "NeverBothDoors$Burrow", name := "hasPerson", desc := "(I)Z" } : Jvm.MethodName) ({ cls := "NeverBothDoors$Burrow", name := "hasPerson", desc := "(I)Z" } : Jvm.MethodName)) ∈ UW := uw_in 381 (by decide +kernel) (by decide +kernel)
theorem q_346 : (Jvm.Cond.code ({ cls := "NeverBothDoors$Burrow", name := "hasPerson", desc := "(I)Z" } : Jvm.MethodName) prog_2_method_4_code (2 : Nat) (Option.some Jvm.ClassFile.FieldType.boolean)) ∈ UW := uw_in 382 (by decide +kernel) (by decide +kernel)
theorem q_347 : (Jvm.Cond.methodLink "NeverBothDoors" (115 : Nat) ({ cls := "NeverBothDoors$Burrow", name := "breathOf", desc := "(I)I" } : Jvm.MethodName)) ∈ UW := uw_in 383 (by decide +kernel) (by decide +kernel)
theorem q_348 : (Jvm.Cond.instanceMethod ({ cls := "NeverBothDoors$Burrow", name := "breathOf", desc := "(I)I" } : Jvm.MethodName)) ∈ UW := uw_in 384 (by decide +kernel) (by decide +kernel)
theorem q_349 : (Jvm.Cond.selects "NeverBothDoors$Burrow" ({ cls := "NeverBothDoors$Burrow", name := "breathOf", desc := "(I)I" } : Jvm.MethodName) ({ cls := "NeverBothDoors$Burrow", name := "breathOf", desc := "(I)I" } : Jvm.MethodName)) ∈ UW := uw_in 385 (by decide +kernel) (by decide +kernel)
theorem q_350 : (Jvm.Cond.code ({ cls := "NeverBothDoors$Burrow", name := "breathOf", desc := "(I)I" } : Jvm.MethodName) prog_2_method_11_code (2 : Nat) (Option.some Jvm.ClassFile.FieldType.int)) ∈ UW := uw_in 386 (by decide +kernel) (by decide +kernel)
theorem q_351 : (Jvm.Cond.methodLink "NeverBothDoors$Burrow" (89 : Nat) ({ cls := "NeverBothDoors$Burrow", name := "hasPerson", desc := "(I)Z" } : Jvm.MethodName)) ∈ UW := uw_in 387 (by decide +kernel) (by decide +kernel)
theorem q_352 : (Jvm.Cond.methodLink "NeverBothDoorsLaw" (36 : Nat) ({ cls := "NeverBothDoors", name := "open", desc := "(II)I" } : Jvm.MethodName)) ∈ UW := uw_in 388 (by decide +kernel) (by decide +kernel)
theorem q_353 : (Jvm.Cond.instanceMethod ({ cls := "NeverBothDoors", name := "open", desc := "(II)I" } : Jvm.MethodName)) ∈ UW := uw_in 389 (by decide +kernel) (by decide +kernel)
theorem q_354 : (Jvm.Cond.selects "NeverBothDoors" ({ cls := "NeverBothDoors", name := "open", desc := "(II)I" } : Jvm.MethodName) ({ cls := "NeverBothDoors", name := "open", desc := "(II)I" } : Jvm.MethodName)) ∈ UW := uw_in 390 (by decide +kernel) (by decide +kernel)
theorem q_355 : (Jvm.Cond.code ({ cls := "NeverBothDoors", name := "open", desc := "(II)I" } : Jvm.MethodName) prog_1_method_7_code (4 : Nat) (Option.some Jvm.ClassFile.FieldType.int)) ∈ UW := uw_in 391 (by decide +kernel) (by decide +kernel)
theorem q_356 : (Jvm.Cond.methodLink "NeverBothDoorsLaw" (40 : Nat) ({ cls := "NeverBothDoors", name := "passes", desc := "(II)I" } : Jvm.MethodName)) ∈ UW := uw_in 392 (by decide +kernel) (by decide +kernel)
theorem q_357 : (Jvm.Cond.instanceMethod ({ cls := "NeverBothDoors", name := "passes", desc := "(II)I" } : Jvm.MethodName)) ∈ UW := uw_in 393 (by decide +kernel) (by decide +kernel)
theorem q_358 : (Jvm.Cond.selects "NeverBothDoors" ({ cls := "NeverBothDoors", name := "passes", desc := "(II)I" } : Jvm.MethodName) ({ cls := "NeverBothDoors", name := "passes", desc := "(II)I" } : Jvm.MethodName)) ∈ UW := uw_in 394 (by decide +kernel) (by decide +kernel)
theorem q_359 : (Jvm.Cond.code ({ cls := "NeverBothDoors", name := "passes", desc := "(II)I" } : Jvm.MethodName) prog_1_method_8_code (3 : Nat) (Option.some Jvm.ClassFile.FieldType.int)) ∈ UW := uw_in 395 (by decide +kernel) (by decide +kernel)
theorem q_360 : (Jvm.Cond.methodLink "NeverBothDoors" (118 : Nat) ({ cls := "NeverBothDoors$Burrow", name := "canPass", desc := "(II)Z" } : Jvm.MethodName)) ∈ UW := uw_in 396 (by decide +kernel) (by decide +kernel)
theorem q_361 : (Jvm.Cond.instanceMethod ({ cls := "NeverBothDoors$Burrow", name := "canPass", desc := "(II)Z" } : Jvm.MethodName)) ∈ UW := uw_in 397 (by decide +kernel) (by decide +kernel)
theorem q_362 : (Jvm.Cond.selects "NeverBothDoors$Burrow" ({ cls := "NeverBothDoors$Burrow", name := "canPass", desc := "(II)Z" } : Jvm.MethodName) ({ cls := "NeverBothDoors$Burrow", name := "canPass", desc := "(II)Z" } : Jvm.MethodName)) ∈ UW := uw_in 398 (by decide +kernel) (by decide +kernel)
theorem q_363 : (Jvm.Cond.code ({ cls := "NeverBothDoors$Burrow", name := "canPass", desc := "(II)Z" } : Jvm.MethodName) prog_2_method_16_code (3 : Nat) (Option.some Jvm.ClassFile.FieldType.boolean)) ∈ UW := uw_in 399 (by decide +kernel) (by decide +kernel)
theorem q_364 : (Jvm.Cond.methodLink "NeverBothDoors$Burrow" (107 : Nat) ({ cls := "NeverBothDoors$Burrow", name := "hasLock", desc := "(I)Z" } : Jvm.MethodName)) ∈ UW := uw_in 400 (by decide +kernel) (by decide +kernel)
theorem q_365 : (Jvm.Cond.methodLink "NeverBothDoors" (125 : Nat) ({ cls := "NeverBothDoors$Burrow", name := "goThrough", desc := "(II)V" } : Jvm.MethodName)) ∈ UW := uw_in 401 (by decide +kernel) (by decide +kernel)
theorem q_366 : (Jvm.Cond.instanceMethod ({ cls := "NeverBothDoors$Burrow", name := "goThrough", desc := "(II)V" } : Jvm.MethodName)) ∈ UW := uw_in 402 (by decide +kernel) (by decide +kernel)
theorem q_367 : (Jvm.Cond.selects "NeverBothDoors$Burrow" ({ cls := "NeverBothDoors$Burrow", name := "goThrough", desc := "(II)V" } : Jvm.MethodName) ({ cls := "NeverBothDoors$Burrow", name := "goThrough", desc := "(II)V" } : Jvm.MethodName)) ∈ UW := uw_in 403 (by decide +kernel) (by decide +kernel)
theorem q_368 : (Jvm.Cond.code ({ cls := "NeverBothDoors$Burrow", name := "goThrough", desc := "(II)V" } : Jvm.MethodName) prog_2_method_17_code (4 : Nat) (Option.none : Option Jvm.ClassFile.FieldType)) ∈ UW := uw_in 404 (by decide +kernel) (by decide +kernel)
theorem q_369 : (Jvm.Cond.methodLink "NeverBothDoors$Burrow" (110 : Nat) ({ cls := "NeverBothDoors$Burrow", name := "canPass", desc := "(II)Z" } : Jvm.MethodName)) ∈ UW := uw_in 405 (by decide +kernel) (by decide +kernel)
theorem q_370 : (Jvm.Cond.methodLink "NeverBothDoors$Burrow" (114 : Nat) ({ cls := "NeverBothDoors$Burrow", name := "liveMinutes", desc := "(I)I" } : Jvm.MethodName)) ∈ UW := uw_in 406 (by decide +kernel) (by decide +kernel)
theorem q_371 : (Jvm.Cond.instanceMethod ({ cls := "NeverBothDoors$Burrow", name := "liveMinutes", desc := "(I)I" } : Jvm.MethodName)) ∈ UW := uw_in 407 (by decide +kernel) (by decide +kernel)
theorem q_372 : (Jvm.Cond.selects "NeverBothDoors$Burrow" ({ cls := "NeverBothDoors$Burrow", name := "liveMinutes", desc := "(I)I" } : Jvm.MethodName) ({ cls := "NeverBothDoors$Burrow", name := "liveMinutes", desc := "(I)I" } : Jvm.MethodName)) ∈ UW := uw_in 408 (by decide +kernel) (by decide +kernel)
theorem q_373 : (Jvm.Cond.code ({ cls := "NeverBothDoors$Burrow", name := "liveMinutes", desc := "(I)I" } : Jvm.MethodName) prog_2_method_15_code (4 : Nat) (Option.some Jvm.ClassFile.FieldType.int)) ∈ UW := uw_in 409 (by decide +kernel) (by decide +kernel)
theorem q_374 : (Jvm.Cond.methodLink "NeverBothDoors$Burrow" (103 : Nat) ({ cls := "NeverBothDoors$Burrow", name := "liveMinute", desc := "()I" } : Jvm.MethodName)) ∈ UW := uw_in 410 (by decide +kernel) (by decide +kernel)
theorem q_375 : (Jvm.Cond.instanceMethod ({ cls := "NeverBothDoors$Burrow", name := "liveMinute", desc := "()I" } : Jvm.MethodName)) ∈ UW := uw_in 411 (by decide +kernel) (by decide +kernel)
theorem q_376 : (Jvm.Cond.selects "NeverBothDoors$Burrow" ({ cls := "NeverBothDoors$Burrow", name := "liveMinute", desc := "()I" } : Jvm.MethodName) ({ cls := "NeverBothDoors$Burrow", name := "liveMinute", desc := "()I" } : Jvm.MethodName)) ∈ UW := uw_in 412 (by decide +kernel) (by decide +kernel)
theorem q_377 : (Jvm.Cond.code ({ cls := "NeverBothDoors$Burrow", name := "liveMinute", desc := "()I" } : Jvm.MethodName) prog_2_method_14_code (4 : Nat) (Option.some Jvm.ClassFile.FieldType.int)) ∈ UW := uw_in 413 (by decide +kernel) (by decide +kernel)
theorem q_378 : (Jvm.Cond.methodLink "NeverBothDoors$Burrow" (100 : Nat) ({ cls := "NeverBothDoors$Burrow", name := "breathIn", desc := "(I)I" } : Jvm.MethodName)) ∈ UW := uw_in 414 (by decide +kernel) (by decide +kernel)
theorem q_379 : (Jvm.Cond.methodLink "NeverBothDoorsLaw" (44 : Nat) ({ cls := "NeverBothDoors", name := "minutes", desc := "(I)I" } : Jvm.MethodName)) ∈ UW := uw_in 415 (by decide +kernel) (by decide +kernel)
theorem q_380 : (Jvm.Cond.instanceMethod ({ cls := "NeverBothDoors", name := "minutes", desc := "(I)I" } : Jvm.MethodName)) ∈ UW := uw_in 416 (by decide +kernel) (by decide +kernel)
theorem q_381 : (Jvm.Cond.selects "NeverBothDoors" ({ cls := "NeverBothDoors", name := "minutes", desc := "(I)I" } : Jvm.MethodName) ({ cls := "NeverBothDoors", name := "minutes", desc := "(I)I" } : Jvm.MethodName)) ∈ UW := uw_in 417 (by decide +kernel) (by decide +kernel)
theorem q_382 : (Jvm.Cond.code ({ cls := "NeverBothDoors", name := "minutes", desc := "(I)I" } : Jvm.MethodName) prog_1_method_9_code (2 : Nat) (Option.some Jvm.ClassFile.FieldType.int)) ∈ UW := uw_in 418 (by decide +kernel) (by decide +kernel)
theorem q_383 : (Jvm.Cond.methodLink "NeverBothDoors" (129 : Nat) ({ cls := "NeverBothDoors$Burrow", name := "liveMinutes", desc := "(I)I" } : Jvm.MethodName)) ∈ UW := uw_in 419 (by decide +kernel) (by decide +kernel)
theorem q_384 : (Jvm.Cond.methodLink "NeverBothDoorsLaw" (48 : Nat) ({ cls := "NeverBothDoors", name := "leak", desc := "(II)I" } : Jvm.MethodName)) ∈ UW := uw_in 420 (by decide +kernel) (by decide +kernel)
theorem q_385 : (Jvm.Cond.instanceMethod ({ cls := "NeverBothDoors", name := "leak", desc := "(II)I" } : Jvm.MethodName)) ∈ UW := uw_in 421 (by decide +kernel) (by decide +kernel)
theorem q_386 : (Jvm.Cond.selects "NeverBothDoors" ({ cls := "NeverBothDoors", name := "leak", desc := "(II)I" } : Jvm.MethodName) ({ cls := "NeverBothDoors", name := "leak", desc := "(II)I" } : Jvm.MethodName)) ∈ UW := uw_in 422 (by decide +kernel) (by decide +kernel)
theorem q_387 : (Jvm.Cond.code ({ cls := "NeverBothDoors", name := "leak", desc := "(II)I" } : Jvm.MethodName) prog_1_method_10_code (4 : Nat) (Option.some Jvm.ClassFile.FieldType.int)) ∈ UW := uw_in 423 (by decide +kernel) (by decide +kernel)
theorem q_388 : (Jvm.Cond.methodLink "NeverBothDoorsLaw" (52 : Nat) ({ cls := "NeverBothDoors", name := "air", desc := "(II)I" } : Jvm.MethodName)) ∈ UW := uw_in 424 (by decide +kernel) (by decide +kernel)
theorem q_389 : (Jvm.Cond.instanceMethod ({ cls := "NeverBothDoors", name := "air", desc := "(II)I" } : Jvm.MethodName)) ∈ UW := uw_in 425 (by decide +kernel) (by decide +kernel)
theorem q_390 : (Jvm.Cond.selects "NeverBothDoors" ({ cls := "NeverBothDoors", name := "air", desc := "(II)I" } : Jvm.MethodName) ({ cls := "NeverBothDoors", name := "air", desc := "(II)I" } : Jvm.MethodName)) ∈ UW := uw_in 426 (by decide +kernel) (by decide +kernel)
theorem q_391 : (Jvm.Cond.code ({ cls := "NeverBothDoors", name := "air", desc := "(II)I" } : Jvm.MethodName) prog_1_method_11_code (3 : Nat) (Option.some Jvm.ClassFile.FieldType.int)) ∈ UW := uw_in 427 (by decide +kernel) (by decide +kernel)
theorem q_392 : (Jvm.Cond.methodLink "NeverBothDoors" (132 : Nat) ({ cls := "NeverBothDoors$Burrow", name := "airBehind", desc := "(III)I" } : Jvm.MethodName)) ∈ UW := uw_in 428 (by decide +kernel) (by decide +kernel)
theorem q_393 : (Jvm.Cond.instanceMethod ({ cls := "NeverBothDoors$Burrow", name := "airBehind", desc := "(III)I" } : Jvm.MethodName)) ∈ UW := uw_in 429 (by decide +kernel) (by decide +kernel)
theorem q_394 : (Jvm.Cond.selects "NeverBothDoors$Burrow" ({ cls := "NeverBothDoors$Burrow", name := "airBehind", desc := "(III)I" } : Jvm.MethodName) ({ cls := "NeverBothDoors$Burrow", name := "airBehind", desc := "(III)I" } : Jvm.MethodName)) ∈ UW := uw_in 430 (by decide +kernel) (by decide +kernel)
theorem q_395 : (Jvm.Cond.code ({ cls := "NeverBothDoors$Burrow", name := "airBehind", desc := "(III)I" } : Jvm.MethodName) prog_2_method_13_code (4 : Nat) (Option.some Jvm.ClassFile.FieldType.int)) ∈ UW := uw_in 431 (by decide +kernel) (by decide +kernel)
theorem q_396 : (Jvm.Cond.methodLink "NeverBothDoorsLaw" (56 : Nat) ({ cls := "NeverBothDoors", name := "gasps", desc := "(I)I" } : Jvm.MethodName)) ∈ UW := uw_in 432 (by decide +kernel) (by decide +kernel)
theorem q_397 : (Jvm.Cond.instanceMethod ({ cls := "NeverBothDoors", name := "gasps", desc := "(I)I" } : Jvm.MethodName)) ∈ UW := uw_in 433 (by decide +kernel) (by decide +kernel)
theorem q_398 : (Jvm.Cond.selects "NeverBothDoors" ({ cls := "NeverBothDoors", name := "gasps", desc := "(I)I" } : Jvm.MethodName) ({ cls := "NeverBothDoors", name := "gasps", desc := "(I)I" } : Jvm.MethodName)) ∈ UW := uw_in 434 (by decide +kernel) (by decide +kernel)
theorem q_399 : (Jvm.Cond.code ({ cls := "NeverBothDoors", name := "gasps", desc := "(I)I" } : Jvm.MethodName) prog_1_method_12_code (2 : Nat) (Option.some Jvm.ClassFile.FieldType.int)) ∈ UW := uw_in 435 (by decide +kernel) (by decide +kernel)
theorem q_400 : (Jvm.Cond.methodLink "NeverBothDoorsLaw" (60 : Nat) ({ cls := "NeverBothDoors", name := "out", desc := "()I" } : Jvm.MethodName)) ∈ UW := uw_in 436 (by decide +kernel) (by decide +kernel)
theorem q_401 : (Jvm.Cond.instanceMethod ({ cls := "NeverBothDoors", name := "out", desc := "()I" } : Jvm.MethodName)) ∈ UW := uw_in 437 (by decide +kernel) (by decide +kernel)
theorem q_402 : (Jvm.Cond.selects "NeverBothDoors" ({ cls := "NeverBothDoors", name := "out", desc := "()I" } : Jvm.MethodName) ({ cls := "NeverBothDoors", name := "out", desc := "()I" } : Jvm.MethodName)) ∈ UW := uw_in 438 (by decide +kernel) (by decide +kernel)
theorem q_403 : (Jvm.Cond.code ({ cls := "NeverBothDoors", name := "out", desc := "()I" } : Jvm.MethodName) prog_1_method_13_code (2 : Nat) (Option.some Jvm.ClassFile.FieldType.int)) ∈ UW := uw_in 439 (by decide +kernel) (by decide +kernel)
theorem q_404 : (Jvm.Cond.methodLink "NeverBothDoors" (140 : Nat) ({ cls := "NeverBothDoors$Burrow", name := "liveMinute", desc := "()I" } : Jvm.MethodName)) ∈ UW := uw_in 440 (by decide +kernel) (by decide +kernel)
theorem q_405 : (Jvm.Cond.methodLink "NeverBothDoorsLaw" (64 : Nat) ({ cls := "NeverBothDoors", name := "way", desc := "(II)I" } : Jvm.MethodName)) ∈ UW := uw_in 441 (by decide +kernel) (by decide +kernel)
theorem q_406 : (Jvm.Cond.instanceMethod ({ cls := "NeverBothDoors", name := "way", desc := "(II)I" } : Jvm.MethodName)) ∈ UW := uw_in 442 (by decide +kernel) (by decide +kernel)
theorem q_407 : (Jvm.Cond.selects "NeverBothDoors" ({ cls := "NeverBothDoors", name := "way", desc := "(II)I" } : Jvm.MethodName) ({ cls := "NeverBothDoors", name := "way", desc := "(II)I" } : Jvm.MethodName)) ∈ UW := uw_in 443 (by decide +kernel) (by decide +kernel)
theorem q_408 : (Jvm.Cond.code ({ cls := "NeverBothDoors", name := "way", desc := "(II)I" } : Jvm.MethodName) prog_1_method_14_code (3 : Nat) (Option.some Jvm.ClassFile.FieldType.int)) ∈ UW := uw_in 444 (by decide +kernel) (by decide +kernel)
theorem q_409 : (Jvm.Cond.methodLink "NeverBothDoors" (143 : Nat) ({ cls := "NeverBothDoors", name := "isPlace", desc := "(I)Z" } : Jvm.MethodName)) ∈ UW := uw_in 445 (by decide +kernel) (by decide +kernel)
theorem q_410 : (Jvm.Cond.methodLink "NeverBothDoors" (146 : Nat) ({ cls := "NeverBothDoors$Ways", name := "measure", desc := "(LNeverBothDoors$Burrow;)V" } : Jvm.MethodName)) ∈ UW := uw_in 446 (by decide +kernel) (by decide +kernel)
theorem q_411 : (Jvm.Cond.instanceMethod ({ cls := "NeverBothDoors$Ways", name := "measure", desc := "(LNeverBothDoors$Burrow;)V" } : Jvm.MethodName)) ∈ UW := uw_in 447 (by decide +kernel) (by decide +kernel)
theorem q_412 : (Jvm.Cond.selects "NeverBothDoors$Ways" ({ cls := "NeverBothDoors$Ways", name := "measure", desc := "(LNeverBothDoors$Burrow;)V" } : Jvm.MethodName) ({ cls := "NeverBothDoors$Ways", name := "measure", desc := "(LNeverBothDoors$Burrow;)V" } : Jvm.MethodName)) ∈ UW := uw_in 448 (by decide +kernel) (by decide +kernel)
theorem q_413 : (Jvm.Cond.code ({ cls := "NeverBothDoors$Ways", name := "measure", desc := "(LNeverBothDoors$Burrow;)V" } : Jvm.MethodName) prog_4_method_2_code (4 : Nat) (Option.none : Option Jvm.ClassFile.FieldType)) ∈ UW := uw_in 449 (by decide +kernel) (by decide +kernel)
theorem q_414 : (Jvm.Cond.constant "NeverBothDoors$Ways" (20 : Nat) (1000000 : Int32)) ∈ UW := uw_in 450 (by decide +kernel) (by decide +kernel)
theorem q_415 : (Jvm.Cond.methodLink "NeverBothDoors$Ways" (36 : Nat) ({ cls := "NeverBothDoors$Ways", name := "join", desc := "(III)V" } : Jvm.MethodName)) ∈ UW := uw_in 451 (by decide +kernel) (by decide +kernel)
theorem q_417 : (Jvm.Cond.instanceMethod ({ cls := "NeverBothDoors$Ways", name := "join", desc := "(III)V" } : Jvm.MethodName)) ∈ UW := uw_in 453 (by decide +kernel) (by decide +kernel)
theorem q_418 : (Jvm.Cond.code ({ cls := "NeverBothDoors$Ways", name := "join", desc := "(III)V" } : Jvm.MethodName) prog_4_method_3_code (4 : Nat) (Option.none : Option Jvm.ClassFile.FieldType)) ∈ UW := uw_in 454 (by decide +kernel) (by decide +kernel)
theorem q_420 : (Jvm.Cond.methodLink "NeverBothDoors$Ways" (48 : Nat) ({ cls := "java/lang/Math", name := "min", desc := "(II)I" } : Jvm.MethodName)) ∈ UW := uw_in 456 (by decide +kernel) (by decide +kernel)
theorem q_421 : (Jvm.Cond.methodLink "NeverBothDoors$Ways" (40 : Nat) ({ cls := "NeverBothDoors$Ways", name := "shortenBy", desc := "(I)V" } : Jvm.MethodName)) ∈ UW := uw_in 457 (by decide +kernel) (by decide +kernel)
theorem q_423 : (Jvm.Cond.instanceMethod ({ cls := "NeverBothDoors$Ways", name := "shortenBy", desc := "(I)V" } : Jvm.MethodName)) ∈ UW := uw_in 459 (by decide +kernel) (by decide +kernel)
theorem q_424 : (Jvm.Cond.code ({ cls := "NeverBothDoors$Ways", name := "shortenBy", desc := "(I)V" } : Jvm.MethodName) prog_4_method_4_code (4 : Nat) (Option.none : Option Jvm.ClassFile.FieldType)) ∈ UW := uw_in 460 (by decide +kernel) (by decide +kernel)
theorem q_425 : (Jvm.Cond.methodLink "NeverBothDoors" (152 : Nat) ({ cls := "NeverBothDoors", name := "orNone", desc := "(I)I" } : Jvm.MethodName)) ∈ UW := uw_in 461 (by decide +kernel) (by decide +kernel)
theorem q_426 : (Jvm.Cond.static ({ cls := "NeverBothDoors", name := "orNone", desc := "(I)I" } : Jvm.MethodName)) ∈ UW := uw_in 462 (by decide +kernel) (by decide +kernel)
theorem q_427 : (Jvm.Cond.code ({ cls := "NeverBothDoors", name := "orNone", desc := "(I)I" } : Jvm.MethodName) prog_1_method_33_code (1 : Nat) (Option.some Jvm.ClassFile.FieldType.int)) ∈ UW := uw_in 463 (by decide +kernel) (by decide +kernel)
theorem q_428 : (Jvm.Cond.constant "NeverBothDoors" (207 : Nat) (1000000 : Int32)) ∈ UW := uw_in 464 (by decide +kernel) (by decide +kernel)
theorem q_429 : (Jvm.Cond.methodLink "NeverBothDoorsLaw" (68 : Nat) ({ cls := "NeverBothDoors", name := "soonest", desc := "(I)I" } : Jvm.MethodName)) ∈ UW := uw_in 465 (by decide +kernel) (by decide +kernel)
theorem q_430 : (Jvm.Cond.instanceMethod ({ cls := "NeverBothDoors", name := "soonest", desc := "(I)I" } : Jvm.MethodName)) ∈ UW := uw_in 466 (by decide +kernel) (by decide +kernel)
theorem q_431 : (Jvm.Cond.selects "NeverBothDoors" ({ cls := "NeverBothDoors", name := "soonest", desc := "(I)I" } : Jvm.MethodName) ({ cls := "NeverBothDoors", name := "soonest", desc := "(I)I" } : Jvm.MethodName)) ∈ UW := uw_in 467 (by decide +kernel) (by decide +kernel)
theorem q_432 : (Jvm.Cond.code ({ cls := "NeverBothDoors", name := "soonest", desc := "(I)I" } : Jvm.MethodName) prog_1_method_15_code (2 : Nat) (Option.some Jvm.ClassFile.FieldType.int)) ∈ UW := uw_in 468 (by decide +kernel) (by decide +kernel)
theorem q_433 : (Jvm.Cond.methodLink "NeverBothDoors" (155 : Nat) ({ cls := "NeverBothDoors$Ways", name := "toAnyRoom", desc := "(I)I" } : Jvm.MethodName)) ∈ UW := uw_in 469 (by decide +kernel) (by decide +kernel)
theorem q_434 : (Jvm.Cond.instanceMethod ({ cls := "NeverBothDoors$Ways", name := "toAnyRoom", desc := "(I)I" } : Jvm.MethodName)) ∈ UW := uw_in 470 (by decide +kernel) (by decide +kernel)
theorem q_435 : (Jvm.Cond.selects "NeverBothDoors$Ways" ({ cls := "NeverBothDoors$Ways", name := "toAnyRoom", desc := "(I)I" } : Jvm.MethodName) ({ cls := "NeverBothDoors$Ways", name := "toAnyRoom", desc := "(I)I" } : Jvm.MethodName)) ∈ UW := uw_in 471 (by decide +kernel) (by decide +kernel)
theorem q_436 : (Jvm.Cond.code ({ cls := "NeverBothDoors$Ways", name := "toAnyRoom", desc := "(I)I" } : Jvm.MethodName) prog_4_method_5_code (4 : Nat) (Option.some Jvm.ClassFile.FieldType.int)) ∈ UW := uw_in 472 (by decide +kernel) (by decide +kernel)
theorem q_437 : (Jvm.Cond.methodLink "NeverBothDoorsLaw" (72 : Nat) ({ cls := "NeverBothDoors", name := "farthest", desc := "(I)I" } : Jvm.MethodName)) ∈ UW := uw_in 473 (by decide +kernel) (by decide +kernel)
theorem q_438 : (Jvm.Cond.instanceMethod ({ cls := "NeverBothDoors", name := "farthest", desc := "(I)I" } : Jvm.MethodName)) ∈ UW := uw_in 474 (by decide +kernel) (by decide +kernel)
theorem q_439 : (Jvm.Cond.selects "NeverBothDoors" ({ cls := "NeverBothDoors", name := "farthest", desc := "(I)I" } : Jvm.MethodName) ({ cls := "NeverBothDoors", name := "farthest", desc := "(I)I" } : Jvm.MethodName)) ∈ UW := uw_in 475 (by decide +kernel) (by decide +kernel)
theorem q_440 : (Jvm.Cond.code ({ cls := "NeverBothDoors", name := "farthest", desc := "(I)I" } : Jvm.MethodName) prog_1_method_16_code (3 : Nat) (Option.some Jvm.ClassFile.FieldType.int)) ∈ UW := uw_in 476 (by decide +kernel) (by decide +kernel)
theorem q_441 : (Jvm.Cond.methodLink "NeverBothDoors" (158 : Nat) ({ cls := "NeverBothDoors$Ways", name := "farthestRoom", desc := "()I" } : Jvm.MethodName)) ∈ UW := uw_in 477 (by decide +kernel) (by decide +kernel)
theorem q_442 : (Jvm.Cond.instanceMethod ({ cls := "NeverBothDoors$Ways", name := "farthestRoom", desc := "()I" } : Jvm.MethodName)) ∈ UW := uw_in 478 (by decide +kernel) (by decide +kernel)
theorem q_443 : (Jvm.Cond.selects "NeverBothDoors$Ways" ({ cls := "NeverBothDoors$Ways", name := "farthestRoom", desc := "()I" } : Jvm.MethodName) ({ cls := "NeverBothDoors$Ways", name := "farthestRoom", desc := "()I" } : Jvm.MethodName)) ∈ UW := uw_in 479 (by decide +kernel) (by decide +kernel)
theorem q_444 : (Jvm.Cond.code ({ cls := "NeverBothDoors$Ways", name := "farthestRoom", desc := "()I" } : Jvm.MethodName) prog_4_method_6_code (5 : Nat) (Option.some Jvm.ClassFile.FieldType.int)) ∈ UW := uw_in 480 (by decide +kernel) (by decide +kernel)
theorem q_445 : (Jvm.Cond.methodLink "NeverBothDoorsLaw" (76 : Nat) ({ cls := "NeverBothDoors", name := "more", desc := "(I)I" } : Jvm.MethodName)) ∈ UW := uw_in 481 (by decide +kernel) (by decide +kernel)
theorem q_446 : (Jvm.Cond.instanceMethod ({ cls := "NeverBothDoors", name := "more", desc := "(I)I" } : Jvm.MethodName)) ∈ UW := uw_in 482 (by decide +kernel) (by decide +kernel)
theorem q_447 : (Jvm.Cond.selects "NeverBothDoors" ({ cls := "NeverBothDoors", name := "more", desc := "(I)I" } : Jvm.MethodName) ({ cls := "NeverBothDoors", name := "more", desc := "(I)I" } : Jvm.MethodName)) ∈ UW := uw_in 483 (by decide +kernel) (by decide +kernel)
theorem q_448 : (Jvm.Cond.code ({ cls := "NeverBothDoors", name := "more", desc := "(I)I" } : Jvm.MethodName) prog_1_method_17_code (2 : Nat) (Option.some Jvm.ClassFile.FieldType.int)) ∈ UW := uw_in 484 (by decide +kernel) (by decide +kernel)
theorem q_449 : (Jvm.Cond.methodLink "NeverBothDoors" (161 : Nat) ({ cls := "NeverBothDoors", name := "bestNewLock", desc := "()I" } : Jvm.MethodName)) ∈ UW := uw_in 485 (by decide +kernel) (by decide +kernel)
theorem q_451 : (Jvm.Cond.instanceMethod ({ cls := "NeverBothDoors", name := "bestNewLock", desc := "()I" } : Jvm.MethodName)) ∈ UW := uw_in 487 (by decide +kernel) (by decide +kernel)
theorem q_452 : (Jvm.Cond.code ({ cls := "NeverBothDoors", name := "bestNewLock", desc := "()I" } : Jvm.MethodName) prog_1_method_39_code (6 : Nat) (Option.some Jvm.ClassFile.FieldType.int)) ∈ UW := uw_in 488 (by decide +kernel) (by decide +kernel)
theorem q_453 : (Jvm.Cond.methodLink "NeverBothDoors" (164 : Nat) ({ cls := "NeverBothDoors", name := "longestWith", desc := "(I)I" } : Jvm.MethodName)) ∈ UW := uw_in 489 (by decide +kernel) (by decide +kernel)
theorem q_455 : (Jvm.Cond.instanceMethod ({ cls := "NeverBothDoors", name := "longestWith", desc := "(I)I" } : Jvm.MethodName)) ∈ UW := uw_in 491 (by decide +kernel) (by decide +kernel)
theorem q_456 : (Jvm.Cond.code ({ cls := "NeverBothDoors", name := "longestWith", desc := "(I)I" } : Jvm.MethodName) prog_1_method_40_code (2 : Nat) (Option.some Jvm.ClassFile.FieldType.int)) ∈ UW := uw_in 492 (by decide +kernel) (by decide +kernel)
theorem q_457 : (Jvm.Cond.methodLink "NeverBothDoors" (245 : Nat) ({ cls := "NeverBothDoors$Ways", name := "longestWith", desc := "(II)I" } : Jvm.MethodName)) ∈ UW := uw_in 493 (by decide +kernel) (by decide +kernel)
theorem q_458 : (Jvm.Cond.instanceMethod ({ cls := "NeverBothDoors$Ways", name := "longestWith", desc := "(II)I" } : Jvm.MethodName)) ∈ UW := uw_in 494 (by decide +kernel) (by decide +kernel)
theorem q_459 : (Jvm.Cond.selects "NeverBothDoors$Ways" ({ cls := "NeverBothDoors$Ways", name := "longestWith", desc := "(II)I" } : Jvm.MethodName) ({ cls := "NeverBothDoors$Ways", name := "longestWith", desc := "(II)I" } : Jvm.MethodName)) ∈ UW := uw_in 495 (by decide +kernel) (by decide +kernel)
theorem q_460 : (Jvm.Cond.code ({ cls := "NeverBothDoors$Ways", name := "longestWith", desc := "(II)I" } : Jvm.MethodName) prog_4_method_7_code (7 : Nat) (Option.some Jvm.ClassFile.FieldType.int)) ∈ UW := uw_in 496 (by decide +kernel) (by decide +kernel)
theorem q_461 : (Jvm.Cond.methodLink "NeverBothDoors$Ways" (54 : Nat) ({ cls := "java/lang/Math", name := "max", desc := "(II)I" } : Jvm.MethodName)) ∈ UW := uw_in 497 (by decide +kernel) (by decide +kernel)
theorem q_462 : (Jvm.Cond.methodLink "NeverBothDoorsLaw" (80 : Nat) ({ cls := "NeverBothDoors", name := "errands", desc := "(II)I" } : Jvm.MethodName)) ∈ UW := uw_in 498 (by decide +kernel) (by decide +kernel)
theorem q_463 : (Jvm.Cond.instanceMethod ({ cls := "NeverBothDoors", name := "errands", desc := "(II)I" } : Jvm.MethodName)) ∈ UW := uw_in 499 (by decide +kernel) (by decide +kernel)
theorem q_464 : (Jvm.Cond.selects "NeverBothDoors" ({ cls := "NeverBothDoors", name := "errands", desc := "(II)I" } : Jvm.MethodName) ({ cls := "NeverBothDoors", name := "errands", desc := "(II)I" } : Jvm.MethodName)) ∈ UW := uw_in 500 (by decide +kernel) (by decide +kernel)
theorem q_465 : (Jvm.Cond.code ({ cls := "NeverBothDoors", name := "errands", desc := "(II)I" } : Jvm.MethodName) prog_1_method_18_code (3 : Nat) (Option.some Jvm.ClassFile.FieldType.int)) ∈ UW := uw_in 501 (by decide +kernel) (by decide +kernel)
theorem q_466 : (Jvm.Cond.methodLink "NeverBothDoors" (167 : Nat) ({ cls := "NeverBothDoors$Ways", name := "errandsFrom", desc := "(II)I" } : Jvm.MethodName)) ∈ UW := uw_in 502 (by decide +kernel) (by decide +kernel)
theorem q_467 : (Jvm.Cond.instanceMethod ({ cls := "NeverBothDoors$Ways", name := "errandsFrom", desc := "(II)I" } : Jvm.MethodName)) ∈ UW := uw_in 503 (by decide +kernel) (by decide +kernel)
theorem q_468 : (Jvm.Cond.selects "NeverBothDoors$Ways" ({ cls := "NeverBothDoors$Ways", name := "errandsFrom", desc := "(II)I" } : Jvm.MethodName) ({ cls := "NeverBothDoors$Ways", name := "errandsFrom", desc := "(II)I" } : Jvm.MethodName)) ∈ UW := uw_in 504 (by decide +kernel) (by decide +kernel)
theorem q_469 : (Jvm.Cond.code ({ cls := "NeverBothDoors$Ways", name := "errandsFrom", desc := "(II)I" } : Jvm.MethodName) prog_4_method_8_code (6 : Nat) (Option.some Jvm.ClassFile.FieldType.int)) ∈ UW := uw_in 505 (by decide +kernel) (by decide +kernel)
theorem q_470 : (Jvm.Cond.methodLink "NeverBothDoors$Ways" (57 : Nat) ({ cls := "java/util/Arrays", name := "fill", desc := "([II)V" } : Jvm.MethodName)) ∈ UW := uw_in 506 (by decide +kernel) (by decide +kernel)
theorem q_471 : (Jvm.Cond.methodLink "NeverBothDoors$Ways" (63 : Nat) ({ cls := "NeverBothDoors$Ways", name := "goOnFrom", desc := "(III)V" } : Jvm.MethodName)) ∈ UW := uw_in 507 (by decide +kernel) (by decide +kernel)
theorem q_473 : (Jvm.Cond.instanceMethod ({ cls := "NeverBothDoors$Ways", name := "goOnFrom", desc := "(III)V" } : Jvm.MethodName)) ∈ UW := uw_in 509 (by decide +kernel) (by decide +kernel)
theorem q_474 : (Jvm.Cond.code ({ cls := "NeverBothDoors$Ways", name := "goOnFrom", desc := "(III)V" } : Jvm.MethodName) prog_4_method_9_code (8 : Nat) (Option.none : Option Jvm.ClassFile.FieldType)) ∈ UW := uw_in 510 (by decide +kernel) (by decide +kernel)
theorem q_475 : (Jvm.Cond.methodLink "NeverBothDoorsLaw" (84 : Nat) ({ cls := "NeverBothDoors", name := "fitted", desc := "()I" } : Jvm.MethodName)) ∈ UW := uw_in 511 (by decide +kernel) (by decide +kernel)
theorem q_476 : (Jvm.Cond.instanceMethod ({ cls := "NeverBothDoors", name := "fitted", desc := "()I" } : Jvm.MethodName)) ∈ UW := uw_in 512 (by decide +kernel) (by decide +kernel)
theorem q_477 : (Jvm.Cond.selects "NeverBothDoors" ({ cls := "NeverBothDoors", name := "fitted", desc := "()I" } : Jvm.MethodName) ({ cls := "NeverBothDoors", name := "fitted", desc := "()I" } : Jvm.MethodName)) ∈ UW := uw_in 513 (by decide +kernel) (by decide +kernel)
theorem q_478 : (Jvm.Cond.code ({ cls := "NeverBothDoors", name := "fitted", desc := "()I" } : Jvm.MethodName) prog_1_method_19_code (1 : Nat) (Option.some Jvm.ClassFile.FieldType.int)) ∈ UW := uw_in 514 (by decide +kernel) (by decide +kernel)
theorem q_479 : (Jvm.Cond.methodLink "NeverBothDoors" (174 : Nat) ({ cls := "NeverBothDoors$Burrow", name := "leastBare", desc := "()I" } : Jvm.MethodName)) ∈ UW := uw_in 515 (by decide +kernel) (by decide +kernel)
theorem q_480 : (Jvm.Cond.instanceMethod ({ cls := "NeverBothDoors$Burrow", name := "leastBare", desc := "()I" } : Jvm.MethodName)) ∈ UW := uw_in 516 (by decide +kernel) (by decide +kernel)
theorem q_481 : (Jvm.Cond.selects "NeverBothDoors$Burrow" ({ cls := "NeverBothDoors$Burrow", name := "leastBare", desc := "()I" } : Jvm.MethodName) ({ cls := "NeverBothDoors$Burrow", name := "leastBare", desc := "()I" } : Jvm.MethodName)) ∈ UW := uw_in 517 (by decide +kernel) (by decide +kernel)
theorem q_482 : (Jvm.Cond.code ({ cls := "NeverBothDoors$Burrow", name := "leastBare", desc := "()I" } : Jvm.MethodName) prog_2_method_18_code (4 : Nat) (Option.some Jvm.ClassFile.FieldType.int)) ∈ UW := uw_in 518 (by decide +kernel) (by decide +kernel)
theorem q_483 : (Jvm.Cond.methodLink "NeverBothDoors$Burrow" (117 : Nat) ({ cls := "java/lang/Integer", name := "bitCount", desc := "(I)I" } : Jvm.MethodName)) ∈ UW := uw_in 519 (by decide +kernel) (by decide +kernel)
theorem q_484 : (Jvm.Cond.static ({ cls := "java/lang/Integer", name := "bitCount", desc := "(I)I" } : Jvm.MethodName)) ∈ UW := uw_in 520 (by decide +kernel) (by decide +kernel)
theorem q_485 : (Jvm.Cond.code ({ cls := "java/lang/Integer", name := "bitCount", desc := "(I)I" } : Jvm.MethodName) prog_8_method_49_code (1 : Nat) (Option.some Jvm.ClassFile.FieldType.int)) ∈ UW := uw_in 521 (by decide +kernel) (by decide +kernel)
theorem q_486 : (Jvm.Cond.constant "java/lang/Integer" (265 : Nat) (1431655765 : Int32)) ∈ UW := uw_in 522 (by decide +kernel) (by decide +kernel)
theorem q_487 : (Jvm.Cond.constant "java/lang/Integer" (266 : Nat) (858993459 : Int32)) ∈ UW := uw_in 523 (by decide +kernel) (by decide +kernel)
theorem q_488 : (Jvm.Cond.constant "java/lang/Integer" (267 : Nat) (252645135 : Int32)) ∈ UW := uw_in 524 (by decide +kernel) (by decide +kernel)
theorem q_489 : (Jvm.Cond.methodLink "NeverBothDoors$Burrow" (122 : Nat) ({ cls := "NeverBothDoors$Burrow", name := "suitsAreEnoughBut", desc := "(I)Z" } : Jvm.MethodName)) ∈ UW := uw_in 525 (by decide +kernel) (by decide +kernel)
theorem q_490 : (Jvm.Cond.instanceMethod ({ cls := "NeverBothDoors$Burrow", name := "suitsAreEnoughBut", desc := "(I)Z" } : Jvm.MethodName)) ∈ UW := uw_in 526 (by decide +kernel) (by decide +kernel)
theorem q_491 : (Jvm.Cond.selects "NeverBothDoors$Burrow" ({ cls := "NeverBothDoors$Burrow", name := "suitsAreEnoughBut", desc := "(I)Z" } : Jvm.MethodName) ({ cls := "NeverBothDoors$Burrow", name := "suitsAreEnoughBut", desc := "(I)Z" } : Jvm.MethodName)) ∈ UW := uw_in 527 (by decide +kernel) (by decide +kernel)
theorem q_492 : (Jvm.Cond.code ({ cls := "NeverBothDoors$Burrow", name := "suitsAreEnoughBut", desc := "(I)Z" } : Jvm.MethodName) prog_2_method_19_code (5 : Nat) (Option.some Jvm.ClassFile.FieldType.boolean)) ∈ UW := uw_in 528 (by decide +kernel) (by decide +kernel)
theorem q_493 : (Jvm.Cond.methodLink "NeverBothDoors$Burrow" (125 : Nat) ({ cls := "NeverBothDoors$Burrow", name := "peopleOfFit", desc := "(II)I" } : Jvm.MethodName)) ∈ UW := uw_in 529 (by decide +kernel) (by decide +kernel)
theorem q_494 : (Jvm.Cond.instanceMethod ({ cls := "NeverBothDoors$Burrow", name := "peopleOfFit", desc := "(II)I" } : Jvm.MethodName)) ∈ UW := uw_in 530 (by decide +kernel) (by decide +kernel)
theorem q_495 : (Jvm.Cond.selects "NeverBothDoors$Burrow" ({ cls := "NeverBothDoors$Burrow", name := "peopleOfFit", desc := "(II)I" } : Jvm.MethodName) ({ cls := "NeverBothDoors$Burrow", name := "peopleOfFit", desc := "(II)I" } : Jvm.MethodName)) ∈ UW := uw_in 531 (by decide +kernel) (by decide +kernel)
theorem q_496 : (Jvm.Cond.code ({ cls := "NeverBothDoors$Burrow", name := "peopleOfFit", desc := "(II)I" } : Jvm.MethodName) prog_2_method_20_code (5 : Nat) (Option.some Jvm.ClassFile.FieldType.int)) ∈ UW := uw_in 532 (by decide +kernel) (by decide +kernel)
theorem q_497 : (Jvm.Cond.methodLink "NeverBothDoors" (177 : Nat) ({ cls := "java/lang/Integer", name := "bitCount", desc := "(I)I" } : Jvm.MethodName)) ∈ UW := uw_in 533 (by decide +kernel) (by decide +kernel)
theorem q_498 : (Jvm.Cond.methodLink "NeverBothDoorsLaw" (88 : Nat) ({ cls := "NeverBothDoors", name := "bare", desc := "()I" } : Jvm.MethodName)) ∈ UW := uw_in 534 (by decide +kernel) (by decide +kernel)
theorem q_499 : (Jvm.Cond.instanceMethod ({ cls := "NeverBothDoors", name := "bare", desc := "()I" } : Jvm.MethodName)) ∈ UW := uw_in 535 (by decide +kernel) (by decide +kernel)
theorem q_500 : (Jvm.Cond.selects "NeverBothDoors" ({ cls := "NeverBothDoors", name := "bare", desc := "()I" } : Jvm.MethodName) ({ cls := "NeverBothDoors", name := "bare", desc := "()I" } : Jvm.MethodName)) ∈ UW := uw_in 536 (by decide +kernel) (by decide +kernel)
theorem q_501 : (Jvm.Cond.code ({ cls := "NeverBothDoors", name := "bare", desc := "()I" } : Jvm.MethodName) prog_1_method_20_code (1 : Nat) (Option.some Jvm.ClassFile.FieldType.int)) ∈ UW := uw_in 537 (by decide +kernel) (by decide +kernel)
theorem q_502 : (Jvm.Cond.methodLink "NeverBothDoorsLaw" (92 : Nat) ({ cls := "NeverBothDoors", name := "row", desc := "(I)I" } : Jvm.MethodName)) ∈ UW := uw_in 538 (by decide +kernel) (by decide +kernel)
theorem q_503 : (Jvm.Cond.instanceMethod ({ cls := "NeverBothDoors", name := "row", desc := "(I)I" } : Jvm.MethodName)) ∈ UW := uw_in 539 (by decide +kernel) (by decide +kernel)
theorem q_504 : (Jvm.Cond.selects "NeverBothDoors" ({ cls := "NeverBothDoors", name := "row", desc := "(I)I" } : Jvm.MethodName) ({ cls := "NeverBothDoors", name := "row", desc := "(I)I" } : Jvm.MethodName)) ∈ UW := uw_in 540 (by decide +kernel) (by decide +kernel)
theorem q_505 : (Jvm.Cond.code ({ cls := "NeverBothDoors", name := "row", desc := "(I)I" } : Jvm.MethodName) prog_1_method_21_code (2 : Nat) (Option.some Jvm.ClassFile.FieldType.int)) ∈ UW := uw_in 541 (by decide +kernel) (by decide +kernel)
theorem q_506 : (Jvm.Cond.methodLink "NeverBothDoorsLaw" (96 : Nat) ({ cls := "NeverBothDoors", name := "gauges", desc := "(II)I" } : Jvm.MethodName)) ∈ UW := uw_in 542 (by decide +kernel) (by decide +kernel)
theorem q_507 : (Jvm.Cond.instanceMethod ({ cls := "NeverBothDoors", name := "gauges", desc := "(II)I" } : Jvm.MethodName)) ∈ UW := uw_in 543 (by decide +kernel) (by decide +kernel)
theorem q_508 : (Jvm.Cond.selects "NeverBothDoors" ({ cls := "NeverBothDoors", name := "gauges", desc := "(II)I" } : Jvm.MethodName) ({ cls := "NeverBothDoors", name := "gauges", desc := "(II)I" } : Jvm.MethodName)) ∈ UW := uw_in 544 (by decide +kernel) (by decide +kernel)
theorem q_509 : (Jvm.Cond.code ({ cls := "NeverBothDoors", name := "gauges", desc := "(II)I" } : Jvm.MethodName) prog_1_method_22_code (3 : Nat) (Option.some Jvm.ClassFile.FieldType.int)) ∈ UW := uw_in 545 (by decide +kernel) (by decide +kernel)
theorem q_510 : (Jvm.Cond.methodLink "NeverBothDoors" (182 : Nat) ({ cls := "NeverBothDoors", name := "waysToLeak", desc := "(I)I" } : Jvm.MethodName)) ∈ UW := uw_in 546 (by decide +kernel) (by decide +kernel)
theorem q_512 : (Jvm.Cond.instanceMethod ({ cls := "NeverBothDoors", name := "waysToLeak", desc := "(I)I" } : Jvm.MethodName)) ∈ UW := uw_in 548 (by decide +kernel) (by decide +kernel)
theorem q_513 : (Jvm.Cond.code ({ cls := "NeverBothDoors", name := "waysToLeak", desc := "(I)I" } : Jvm.MethodName) prog_1_method_44_code (6 : Nat) (Option.some Jvm.ClassFile.FieldType.int)) ∈ UW := uw_in 549 (by decide +kernel) (by decide +kernel)
theorem q_514 : (Jvm.Cond.methodLink "NeverBothDoors" (188 : Nat) ({ cls := "NeverBothDoors", name := "roomsUnlikeTold", desc := "(I)I" } : Jvm.MethodName)) ∈ UW := uw_in 550 (by decide +kernel) (by decide +kernel)
theorem q_516 : (Jvm.Cond.instanceMethod ({ cls := "NeverBothDoors", name := "roomsUnlikeTold", desc := "(I)I" } : Jvm.MethodName)) ∈ UW := uw_in 552 (by decide +kernel) (by decide +kernel)
theorem q_517 : (Jvm.Cond.code ({ cls := "NeverBothDoors", name := "roomsUnlikeTold", desc := "(I)I" } : Jvm.MethodName) prog_1_method_42_code (4 : Nat) (Option.some Jvm.ClassFile.FieldType.int)) ∈ UW := uw_in 553 (by decide +kernel) (by decide +kernel)
theorem q_518 : (Jvm.Cond.methodLink "NeverBothDoors" (247 : Nat) ({ cls := "NeverBothDoors", name := "isAsTold", desc := "(III)Z" } : Jvm.MethodName)) ∈ UW := uw_in 554 (by decide +kernel) (by decide +kernel)
theorem q_520 : (Jvm.Cond.instanceMethod ({ cls := "NeverBothDoors", name := "isAsTold", desc := "(III)Z" } : Jvm.MethodName)) ∈ UW := uw_in 556 (by decide +kernel) (by decide +kernel)
theorem q_521 : (Jvm.Cond.code ({ cls := "NeverBothDoors", name := "isAsTold", desc := "(III)Z" } : Jvm.MethodName) prog_1_method_41_code (4 : Nat) (Option.some Jvm.ClassFile.FieldType.boolean)) ∈ UW := uw_in 557 (by decide +kernel) (by decide +kernel)
theorem q_522 : (Jvm.Cond.methodLink "NeverBothDoors" (251 : Nat) ({ cls := "NeverBothDoors", name := "wouldMakeAllSo", desc := "(IIII)Z" } : Jvm.MethodName)) ∈ UW := uw_in 558 (by decide +kernel) (by decide +kernel)
theorem q_524 : (Jvm.Cond.instanceMethod ({ cls := "NeverBothDoors", name := "wouldMakeAllSo", desc := "(IIII)Z" } : Jvm.MethodName)) ∈ UW := uw_in 560 (by decide +kernel) (by decide +kernel)
theorem q_525 : (Jvm.Cond.code ({ cls := "NeverBothDoors", name := "wouldMakeAllSo", desc := "(IIII)Z" } : Jvm.MethodName) prog_1_method_43_code (6 : Nat) (Option.some Jvm.ClassFile.FieldType.boolean)) ∈ UW := uw_in 561 (by decide +kernel) (by decide +kernel)
theorem q_526 : (Jvm.Cond.methodLink "NeverBothDoors" (185 : Nat) ({ cls := "NeverBothDoors", name := "firstToLeak", desc := "(I)I" } : Jvm.MethodName)) ∈ UW := uw_in 562 (by decide +kernel) (by decide +kernel)
theorem q_528 : (Jvm.Cond.instanceMethod ({ cls := "NeverBothDoors", name := "firstToLeak", desc := "(I)I" } : Jvm.MethodName)) ∈ UW := uw_in 564 (by decide +kernel) (by decide +kernel)
theorem q_529 : (Jvm.Cond.code ({ cls := "NeverBothDoors", name := "firstToLeak", desc := "(I)I" } : Jvm.MethodName) prog_1_method_45_code (5 : Nat) (Option.some Jvm.ClassFile.FieldType.int)) ∈ UW := uw_in 565 (by decide +kernel) (by decide +kernel)
theorem q_530 : (Jvm.Cond.methodLink "NeverBothDoorsLaw" (100 : Nat) ({ cls := "NeverBothDoors", name := "judge", desc := "()I" } : Jvm.MethodName)) ∈ UW := uw_in 566 (by decide +kernel) (by decide +kernel)
theorem q_531 : (Jvm.Cond.instanceMethod ({ cls := "NeverBothDoors", name := "judge", desc := "()I" } : Jvm.MethodName)) ∈ UW := uw_in 567 (by decide +kernel) (by decide +kernel)
theorem q_532 : (Jvm.Cond.selects "NeverBothDoors" ({ cls := "NeverBothDoors", name := "judge", desc := "()I" } : Jvm.MethodName) ({ cls := "NeverBothDoors", name := "judge", desc := "()I" } : Jvm.MethodName)) ∈ UW := uw_in 568 (by decide +kernel) (by decide +kernel)
theorem q_533 : (Jvm.Cond.code ({ cls := "NeverBothDoors", name := "judge", desc := "()I" } : Jvm.MethodName) prog_1_method_23_code (2 : Nat) (Option.some Jvm.ClassFile.FieldType.int)) ∈ UW := uw_in 569 (by decide +kernel) (by decide +kernel)
theorem q_534 : (Jvm.Cond.methodLink "NeverBothDoors" (191 : Nat) ({ cls := "NeverBothDoors", name := "passToldInMind", desc := "()I" } : Jvm.MethodName)) ∈ UW := uw_in 570 (by decide +kernel) (by decide +kernel)
theorem q_536 : (Jvm.Cond.instanceMethod ({ cls := "NeverBothDoors", name := "passToldInMind", desc := "()I" } : Jvm.MethodName)) ∈ UW := uw_in 572 (by decide +kernel) (by decide +kernel)
theorem q_537 : (Jvm.Cond.code ({ cls := "NeverBothDoors", name := "passToldInMind", desc := "()I" } : Jvm.MethodName) prog_1_method_46_code (4 : Nat) (Option.some Jvm.ClassFile.FieldType.int)) ∈ UW := uw_in 573 (by decide +kernel) (by decide +kernel)
theorem q_538 : (Jvm.Cond.methodLink "NeverBothDoorsLaw" (104 : Nat) ({ cls := "NeverBothDoors", name := "ends", desc := "()I" } : Jvm.MethodName)) ∈ UW := uw_in 574 (by decide +kernel) (by decide +kernel)
theorem q_539 : (Jvm.Cond.instanceMethod ({ cls := "NeverBothDoors", name := "ends", desc := "()I" } : Jvm.MethodName)) ∈ UW := uw_in 575 (by decide +kernel) (by decide +kernel)
theorem q_540 : (Jvm.Cond.selects "NeverBothDoors" ({ cls := "NeverBothDoors", name := "ends", desc := "()I" } : Jvm.MethodName) ({ cls := "NeverBothDoors", name := "ends", desc := "()I" } : Jvm.MethodName)) ∈ UW := uw_in 576 (by decide +kernel) (by decide +kernel)
theorem q_541 : (Jvm.Cond.code ({ cls := "NeverBothDoors", name := "ends", desc := "()I" } : Jvm.MethodName) prog_1_method_24_code (1 : Nat) (Option.some Jvm.ClassFile.FieldType.int)) ∈ UW := uw_in 577 (by decide +kernel) (by decide +kernel)
theorem q_542 : (Jvm.Cond.methodLink "NeverBothDoorsLaw" (108 : Nat) ({ cls := "NeverBothDoors", name := "clear", desc := "()I" } : Jvm.MethodName)) ∈ UW := uw_in 578 (by decide +kernel) (by decide +kernel)
theorem q_543 : (Jvm.Cond.instanceMethod ({ cls := "NeverBothDoors", name := "clear", desc := "()I" } : Jvm.MethodName)) ∈ UW := uw_in 579 (by decide +kernel) (by decide +kernel)
theorem q_544 : (Jvm.Cond.selects "NeverBothDoors" ({ cls := "NeverBothDoors", name := "clear", desc := "()I" } : Jvm.MethodName) ({ cls := "NeverBothDoors", name := "clear", desc := "()I" } : Jvm.MethodName)) ∈ UW := uw_in 580 (by decide +kernel) (by decide +kernel)
theorem q_545 : (Jvm.Cond.code ({ cls := "NeverBothDoors", name := "clear", desc := "()I" } : Jvm.MethodName) prog_1_method_25_code (2 : Nat) (Option.some Jvm.ClassFile.FieldType.int)) ∈ UW := uw_in 581 (by decide +kernel) (by decide +kernel)
theorem q_546 : (Jvm.Cond.methodLink "NeverBothDoorsLaw" (112 : Nat) ({ cls := "NeverBothDoors", name := "seeds", desc := "(II)I" } : Jvm.MethodName)) ∈ UW := uw_in 582 (by decide +kernel) (by decide +kernel)
theorem q_547 : (Jvm.Cond.instanceMethod ({ cls := "NeverBothDoors", name := "seeds", desc := "(II)I" } : Jvm.MethodName)) ∈ UW := uw_in 583 (by decide +kernel) (by decide +kernel)
theorem q_548 : (Jvm.Cond.selects "NeverBothDoors" ({ cls := "NeverBothDoors", name := "seeds", desc := "(II)I" } : Jvm.MethodName) ({ cls := "NeverBothDoors", name := "seeds", desc := "(II)I" } : Jvm.MethodName)) ∈ UW := uw_in 584 (by decide +kernel) (by decide +kernel)
theorem q_549 : (Jvm.Cond.code ({ cls := "NeverBothDoors", name := "seeds", desc := "(II)I" } : Jvm.MethodName) prog_1_method_26_code (3 : Nat) (Option.some Jvm.ClassFile.FieldType.int)) ∈ UW := uw_in 585 (by decide +kernel) (by decide +kernel)
theorem q_550 : (Jvm.Cond.methodLink "NeverBothDoors" (200 : Nat) ({ cls := "NeverBothDoors", name := "passBySeeds", desc := "(II)I" } : Jvm.MethodName)) ∈ UW := uw_in 586 (by decide +kernel) (by decide +kernel)
theorem q_552 : (Jvm.Cond.instanceMethod ({ cls := "NeverBothDoors", name := "passBySeeds", desc := "(II)I" } : Jvm.MethodName)) ∈ UW := uw_in 588 (by decide +kernel) (by decide +kernel)
theorem q_553 : (Jvm.Cond.code ({ cls := "NeverBothDoors", name := "passBySeeds", desc := "(II)I" } : Jvm.MethodName) prog_1_method_47_code (8 : Nat) (Option.some Jvm.ClassFile.FieldType.int)) ∈ UW := uw_in 589 (by decide +kernel) (by decide +kernel)
theorem q_554 : (Jvm.Cond.methodLink "NeverBothDoors" (254 : Nat) ({ cls := "NeverBothDoors", name := "nextSeed", desc := "(I)I" } : Jvm.MethodName)) ∈ UW := uw_in 590 (by decide +kernel) (by decide +kernel)
theorem q_555 : (Jvm.Cond.static ({ cls := "NeverBothDoors", name := "nextSeed", desc := "(I)I" } : Jvm.MethodName)) ∈ UW := uw_in 591 (by decide +kernel) (by decide +kernel)
theorem q_556 : (Jvm.Cond.code ({ cls := "NeverBothDoors", name := "nextSeed", desc := "(I)I" } : Jvm.MethodName) prog_1_method_48_code (1 : Nat) (Option.some Jvm.ClassFile.FieldType.int)) ∈ UW := uw_in 592 (by decide +kernel) (by decide +kernel)
theorem q_557 : (Jvm.Cond.constant "NeverBothDoors" (260 : Nat) (1664525 : Int32)) ∈ UW := uw_in 593 (by decide +kernel) (by decide +kernel)
theorem q_558 : (Jvm.Cond.constant "NeverBothDoors" (261 : Nat) (1013904223 : Int32)) ∈ UW := uw_in 594 (by decide +kernel) (by decide +kernel)
theorem q_559 : (Jvm.Cond.methodLink "NeverBothDoors" (257 : Nat) ({ cls := "NeverBothDoors", name := "drawn", desc := "(II)I" } : Jvm.MethodName)) ∈ UW := uw_in 595 (by decide +kernel) (by decide +kernel)
theorem q_560 : (Jvm.Cond.static ({ cls := "NeverBothDoors", name := "drawn", desc := "(II)I" } : Jvm.MethodName)) ∈ UW := uw_in 596 (by decide +kernel) (by decide +kernel)
theorem q_561 : (Jvm.Cond.code ({ cls := "NeverBothDoors", name := "drawn", desc := "(II)I" } : Jvm.MethodName) prog_1_method_49_code (2 : Nat) (Option.some Jvm.ClassFile.FieldType.int)) ∈ UW := uw_in 597 (by decide +kernel) (by decide +kernel)
theorem q_562 : (Jvm.Cond.constant "NeverBothDoors" (262 : Nat) (2147483647 : Int32)) ∈ UW := uw_in 598 (by decide +kernel) (by decide +kernel)
theorem q_563 : (Jvm.Cond.methodLink "NeverBothDoorsLaw" (116 : Nat) ({ cls := "NeverBothDoors", name := "image", desc := "()I" } : Jvm.MethodName)) ∈ UW := uw_in 599 (by decide +kernel) (by decide +kernel)
theorem q_564 : (Jvm.Cond.instanceMethod ({ cls := "NeverBothDoors", name := "image", desc := "()I" } : Jvm.MethodName)) ∈ UW := uw_in 600 (by decide +kernel) (by decide +kernel)
theorem q_565 : (Jvm.Cond.selects "NeverBothDoors" ({ cls := "NeverBothDoors", name := "image", desc := "()I" } : Jvm.MethodName) ({ cls := "NeverBothDoors", name := "image", desc := "()I" } : Jvm.MethodName)) ∈ UW := uw_in 601 (by decide +kernel) (by decide +kernel)
theorem q_566 : (Jvm.Cond.code ({ cls := "NeverBothDoors", name := "image", desc := "()I" } : Jvm.MethodName) prog_1_method_27_code (1 : Nat) (Option.some Jvm.ClassFile.FieldType.int)) ∈ UW := uw_in 602 (by decide +kernel) (by decide +kernel)
theorem q_567 : (Jvm.Cond.methodLink "NeverBothDoorsLaw" (120 : Nat) ({ cls := "NeverBothDoors", name := "on", desc := "()I" } : Jvm.MethodName)) ∈ UW := uw_in 603 (by decide +kernel) (by decide +kernel)
theorem q_568 : (Jvm.Cond.instanceMethod ({ cls := "NeverBothDoors", name := "on", desc := "()I" } : Jvm.MethodName)) ∈ UW := uw_in 604 (by decide +kernel) (by decide +kernel)
theorem q_569 : (Jvm.Cond.selects "NeverBothDoors" ({ cls := "NeverBothDoors", name := "on", desc := "()I" } : Jvm.MethodName) ({ cls := "NeverBothDoors", name := "on", desc := "()I" } : Jvm.MethodName)) ∈ UW := uw_in 605 (by decide +kernel) (by decide +kernel)
theorem q_570 : (Jvm.Cond.code ({ cls := "NeverBothDoors", name := "on", desc := "()I" } : Jvm.MethodName) prog_1_method_28_code (1 : Nat) (Option.some Jvm.ClassFile.FieldType.int)) ∈ UW := uw_in 606 (by decide +kernel) (by decide +kernel)
theorem q_571 : (Jvm.Cond.methodLink "NeverBothDoorsLaw" (124 : Nat) ({ cls := "NeverBothDoors", name := "count", desc := "(I)I" } : Jvm.MethodName)) ∈ UW := uw_in 607 (by decide +kernel) (by decide +kernel)
theorem q_572 : (Jvm.Cond.instanceMethod ({ cls := "NeverBothDoors", name := "count", desc := "(I)I" } : Jvm.MethodName)) ∈ UW := uw_in 608 (by decide +kernel) (by decide +kernel)
theorem q_573 : (Jvm.Cond.selects "NeverBothDoors" ({ cls := "NeverBothDoors", name := "count", desc := "(I)I" } : Jvm.MethodName) ({ cls := "NeverBothDoors", name := "count", desc := "(I)I" } : Jvm.MethodName)) ∈ UW := uw_in 609 (by decide +kernel) (by decide +kernel)
theorem q_574 : (Jvm.Cond.code ({ cls := "NeverBothDoors", name := "count", desc := "(I)I" } : Jvm.MethodName) prog_1_method_29_code (2 : Nat) (Option.some Jvm.ClassFile.FieldType.int)) ∈ UW := uw_in 610 (by decide +kernel) (by decide +kernel)
theorem q_575 : (Jvm.Cond.methodLink "NeverBothDoors" (203 : Nat) ({ cls := "NeverBothDoors", name := "sum", desc := "([I)I" } : Jvm.MethodName)) ∈ UW := uw_in 611 (by decide +kernel) (by decide +kernel)
theorem q_576 : (Jvm.Cond.static ({ cls := "NeverBothDoors", name := "sum", desc := "([I)I" } : Jvm.MethodName)) ∈ UW := uw_in 612 (by decide +kernel) (by decide +kernel)
theorem q_577 : (Jvm.Cond.code ({ cls := "NeverBothDoors", name := "sum", desc := "([I)I" } : Jvm.MethodName) prog_1_method_34_code (6 : Nat) (Option.some Jvm.ClassFile.FieldType.int)) ∈ UW := uw_in 613 (by decide +kernel) (by decide +kernel)
theorem q_578 : (Jvm.Cond.classLink "NeverBothDoorsLaw" (10 : Nat) "NeverBothDoorsModel") ∈ UW := uw_in 614 (by decide +kernel) (by decide +kernel)
theorem q_579 : (Jvm.Cond.instantiable "NeverBothDoorsModel" (29 : Nat)) ∈ UW := uw_in 615 (by decide +kernel) (by decide +kernel)
theorem q_580 : (Jvm.Cond.methodLink "NeverBothDoorsLaw" (12 : Nat) ({ cls := "NeverBothDoorsModel", name := "<init>", desc := "()V" } : Jvm.MethodName)) ∈ UW := uw_in 616 (by decide +kernel) (by decide +kernel)
theorem q_581 : (Jvm.Cond.instanceMethod ({ cls := "NeverBothDoorsModel", name := "<init>", desc := "()V" } : Jvm.MethodName)) ∈ UW := uw_in 617 (by decide +kernel) (by decide +kernel)
theorem q_582 : (Jvm.Cond.code ({ cls := "NeverBothDoorsModel", name := "<init>", desc := "()V" } : Jvm.MethodName) prog_6_method_1_code (2 : Nat) (Option.none : Option Jvm.ClassFile.FieldType)) ∈ UW := uw_in 618 (by decide +kernel) (by decide +kernel)
theorem q_583 : (Jvm.Cond.methodLink "NeverBothDoorsModel" (1 : Nat) ({ cls := "java/lang/Object", name := "<init>", desc := "()V" } : Jvm.MethodName)) ∈ UW := uw_in 619 (by decide +kernel) (by decide +kernel)
theorem q_584 : (Jvm.Cond.fieldLink "NeverBothDoorsModel" (7 : Nat) "NeverBothDoorsModel" "air" "[I") ∈ UW := uw_in 620 (by decide +kernel) (by decide +kernel)
theorem q_585 : (Jvm.Cond.fieldLink "NeverBothDoorsModel" (13 : Nat) "NeverBothDoorsModel" "leak" "[I") ∈ UW := uw_in 621 (by decide +kernel) (by decide +kernel)
theorem q_586 : (Jvm.Cond.fieldLink "NeverBothDoorsModel" (77 : Nat) "NeverBothDoorsModel" "locks" "I") ∈ UW := uw_in 622 (by decide +kernel) (by decide +kernel)
theorem q_587 : (Jvm.Cond.fieldLink "NeverBothDoorsModel" (16 : Nat) "NeverBothDoorsModel" "one" "[I") ∈ UW := uw_in 623 (by decide +kernel) (by decide +kernel)
theorem q_588 : (Jvm.Cond.fieldLink "NeverBothDoorsModel" (19 : Nat) "NeverBothDoorsModel" "two" "[I") ∈ UW := uw_in 624 (by decide +kernel) (by decide +kernel)
theorem q_589 : (Jvm.Cond.fieldLink "NeverBothDoorsModel" (22 : Nat) "NeverBothDoorsModel" "size" "[I") ∈ UW := uw_in 625 (by decide +kernel) (by decide +kernel)
theorem q_590 : (Jvm.Cond.fieldLink "NeverBothDoorsModel" (25 : Nat) "NeverBothDoorsModel" "cycle" "[I") ∈ UW := uw_in 626 (by decide +kernel) (by decide +kernel)
theorem q_591 : (Jvm.Cond.fieldLink "NeverBothDoorsModel" (28 : Nat) "NeverBothDoorsModel" "doors" "[I") ∈ UW := uw_in 627 (by decide +kernel) (by decide +kernel)
theorem q_592 : (Jvm.Cond.fieldLink "NeverBothDoorsModel" (81 : Nat) "NeverBothDoorsModel" "people" "I") ∈ UW := uw_in 628 (by decide +kernel) (by decide +kernel)
theorem q_593 : (Jvm.Cond.fieldLink "NeverBothDoorsModel" (31 : Nat) "NeverBothDoorsModel" "kind" "[I") ∈ UW := uw_in 629 (by decide +kernel) (by decide +kernel)
theorem q_594 : (Jvm.Cond.fieldLink "NeverBothDoorsModel" (34 : Nat) "NeverBothDoorsModel" "place" "[I") ∈ UW := uw_in 630 (by decide +kernel) (by decide +kernel)
theorem q_595 : (Jvm.Cond.fieldLink "NeverBothDoorsModel" (37 : Nat) "NeverBothDoorsModel" "fit" "[I") ∈ UW := uw_in 631 (by decide +kernel) (by decide +kernel)
theorem q_596 : (Jvm.Cond.fieldLink "NeverBothDoorsModel" (40 : Nat) "NeverBothDoorsModel" "suit" "[I") ∈ UW := uw_in 632 (by decide +kernel) (by decide +kernel)
theorem q_597 : (Jvm.Cond.fieldLink "NeverBothDoorsModel" (146 : Nat) "NeverBothDoorsModel" "minute" "I") ∈ UW := uw_in 633 (by decide +kernel) (by decide +kernel)
theorem q_598 : (Jvm.Cond.fieldLink "NeverBothDoorsModel" (43 : Nat) "NeverBothDoorsModel" "suits" "[I") ∈ UW := uw_in 634 (by decide +kernel) (by decide +kernel)
theorem q_599 : (Jvm.Cond.fieldLink "NeverBothDoorsModel" (149 : Nat) "NeverBothDoorsModel" "gasped" "I") ∈ UW := uw_in 635 (by decide +kernel) (by decide +kernel)
theorem q_600 : (Jvm.Cond.fieldLink "NeverBothDoorsModel" (88 : Nat) "NeverBothDoorsModel" "letters" "I") ∈ UW := uw_in 636 (by decide +kernel) (by decide +kernel)
theorem q_601 : (Jvm.Cond.fieldLink "NeverBothDoorsModel" (46 : Nat) "NeverBothDoorsModel" "letter" "[I") ∈ UW := uw_in 637 (by decide +kernel) (by decide +kernel)
theorem q_602 : (Jvm.Cond.fieldLink "NeverBothDoorsModel" (91 : Nat) "NeverBothDoorsModel" "at" "I") ∈ UW := uw_in 638 (by decide +kernel) (by decide +kernel)
theorem q_603 : (Jvm.Cond.fieldLink "NeverBothDoorsModel" (49 : Nat) "NeverBothDoorsModel" "value" "[I") ∈ UW := uw_in 639 (by decide +kernel) (by decide +kernel)
theorem q_604 : (Jvm.Cond.fieldLink "NeverBothDoorsModel" (192 : Nat) "NeverBothDoorsModel" "inRow" "I") ∈ UW := uw_in 640 (by decide +kernel) (by decide +kernel)
theorem q_605 : (Jvm.Cond.fieldLink "NeverBothDoorsModel" (52 : Nat) "NeverBothDoorsModel" "row" "[I") ∈ UW := uw_in 641 (by decide +kernel) (by decide +kernel)
theorem q_606 : (Jvm.Cond.fieldLink "NeverBothDoorsModel" (55 : Nat) "NeverBothDoorsModel" "refusals" "[I") ∈ UW := uw_in 642 (by decide +kernel) (by decide +kernel)
theorem q_607 : (Jvm.Cond.fieldLink "NeverBothDoorsModel" (204 : Nat) "NeverBothDoorsModel" "imaged" "Z") ∈ UW := uw_in 643 (by decide +kernel) (by decide +kernel)
theorem q_608 : (Jvm.Cond.fieldLink "NeverBothDoorsModel" (58 : Nat) "NeverBothDoorsModel" "image" "[I") ∈ UW := uw_in 644 (by decide +kernel) (by decide +kernel)
theorem q_609 : (Jvm.Cond.fieldLink "NeverBothDoorsModel" (61 : Nat) "NeverBothDoorsModel" "ahead" "[I") ∈ UW := uw_in 645 (by decide +kernel) (by decide +kernel)
theorem q_610 : (Jvm.Cond.fieldLink "NeverBothDoorsModel" (64 : Nat) "NeverBothDoorsModel" "ways" "[I") ∈ UW := uw_in 646 (by decide +kernel) (by decide +kernel)
theorem q_611 : (Jvm.Cond.fieldLink "NeverBothDoorsModel" (67 : Nat) "NeverBothDoorsModel" "least" "[I") ∈ UW := uw_in 647 (by decide +kernel) (by decide +kernel)
theorem q_612 : (Jvm.Cond.fieldLink "NeverBothDoorsModel" (70 : Nat) "NeverBothDoorsModel" "left" "[I") ∈ UW := uw_in 648 (by decide +kernel) (by decide +kernel)
theorem q_672 : (Jvm.Cond.methodLink "NeverBothDoorsLaw" (17 : Nat) ({ cls := "NeverBothDoorsModel", name := "letter", desc := "(I)I" } : Jvm.MethodName)) ∈ UW := uw_in 708 (by decide +kernel) (by decide +kernel)
theorem q_673 : (Jvm.Cond.instanceMethod ({ cls := "NeverBothDoorsModel", name := "letter", desc := "(I)I" } : Jvm.MethodName)) ∈ UW := uw_in 709 (by decide +kernel) (by decide +kernel)
theorem q_674 : (Jvm.Cond.selects "NeverBothDoorsModel" ({ cls := "NeverBothDoorsModel", name := "letter", desc := "(I)I" } : Jvm.MethodName) ({ cls := "NeverBothDoorsModel", name := "letter", desc := "(I)I" } : Jvm.MethodName)) ∈ UW := uw_in 710 (by decide +kernel) (by decide +kernel)
theorem q_675 : (Jvm.Cond.code ({ cls := "NeverBothDoorsModel", name := "letter", desc := "(I)I" } : Jvm.MethodName) prog_6_method_9_code (2 : Nat) (Option.some Jvm.ClassFile.FieldType.int)) ∈ UW := uw_in 711 (by decide +kernel) (by decide +kernel)
theorem q_676 : (Jvm.Cond.methodLink "NeverBothDoorsModel" (84 : Nat) ({ cls := "NeverBothDoorsModel", name := "no", desc := "(I)I" } : Jvm.MethodName)) ∈ UW := uw_in 712 (by decide +kernel) (by decide +kernel)
theorem q_678 : (Jvm.Cond.instanceMethod ({ cls := "NeverBothDoorsModel", name := "no", desc := "(I)I" } : Jvm.MethodName)) ∈ UW := uw_in 714 (by decide +kernel) (by decide +kernel)
theorem q_679 : (Jvm.Cond.code ({ cls := "NeverBothDoorsModel", name := "no", desc := "(I)I" } : Jvm.MethodName) prog_6_method_2_code (2 : Nat) (Option.some Jvm.ClassFile.FieldType.int)) ∈ UW := uw_in 715 (by decide +kernel) (by decide +kernel)
theorem q_680 : (Jvm.Cond.methodLink "NeverBothDoorsLaw" (22 : Nat) ({ cls := "NeverBothDoorsModel", name := "burrow", desc := "()I" } : Jvm.MethodName)) ∈ UW := uw_in 716 (by decide +kernel) (by decide +kernel)
theorem q_681 : (Jvm.Cond.instanceMethod ({ cls := "NeverBothDoorsModel", name := "burrow", desc := "()I" } : Jvm.MethodName)) ∈ UW := uw_in 717 (by decide +kernel) (by decide +kernel)
theorem q_682 : (Jvm.Cond.selects "NeverBothDoorsModel" ({ cls := "NeverBothDoorsModel", name := "burrow", desc := "()I" } : Jvm.MethodName) ({ cls := "NeverBothDoorsModel", name := "burrow", desc := "()I" } : Jvm.MethodName)) ∈ UW := uw_in 718 (by decide +kernel) (by decide +kernel)
theorem q_683 : (Jvm.Cond.code ({ cls := "NeverBothDoorsModel", name := "burrow", desc := "()I" } : Jvm.MethodName) prog_6_method_15_code (4 : Nat) (Option.some Jvm.ClassFile.FieldType.int)) ∈ UW := uw_in 719 (by decide +kernel) (by decide +kernel)
theorem q_684 : (Jvm.Cond.methodLink "NeverBothDoorsModel" (126 : Nat) ({ cls := "NeverBothDoorsModel", name := "statement", desc := "(Z)I" } : Jvm.MethodName)) ∈ UW := uw_in 720 (by decide +kernel) (by decide +kernel)
theorem q_686 : (Jvm.Cond.instanceMethod ({ cls := "NeverBothDoorsModel", name := "statement", desc := "(Z)I" } : Jvm.MethodName)) ∈ UW := uw_in 722 (by decide +kernel) (by decide +kernel)
theorem q_687 : (Jvm.Cond.code ({ cls := "NeverBothDoorsModel", name := "statement", desc := "(Z)I" } : Jvm.MethodName) prog_6_method_14_code (3 : Nat) (Option.some Jvm.ClassFile.FieldType.int)) ∈ UW := uw_in 723 (by decide +kernel) (by decide +kernel)
theorem q_688 : (Jvm.Cond.methodLink "NeverBothDoorsModel" (107 : Nat) ({ cls := "NeverBothDoorsModel", name := "is", desc := "(I)Z" } : Jvm.MethodName)) ∈ UW := uw_in 724 (by decide +kernel) (by decide +kernel)
theorem q_690 : (Jvm.Cond.instanceMethod ({ cls := "NeverBothDoorsModel", name := "is", desc := "(I)Z" } : Jvm.MethodName)) ∈ UW := uw_in 726 (by decide +kernel) (by decide +kernel)
theorem q_691 : (Jvm.Cond.code ({ cls := "NeverBothDoorsModel", name := "is", desc := "(I)Z" } : Jvm.MethodName) prog_6_method_10_code (2 : Nat) (Option.some Jvm.ClassFile.FieldType.boolean)) ∈ UW := uw_in 727 (by decide +kernel) (by decide +kernel)
theorem q_692 : (Jvm.Cond.methodLink "NeverBothDoorsModel" (111 : Nat) ({ cls := "NeverBothDoorsModel", name := "number", desc := "(II)Z" } : Jvm.MethodName)) ∈ UW := uw_in 728 (by decide +kernel) (by decide +kernel)
theorem q_694 : (Jvm.Cond.instanceMethod ({ cls := "NeverBothDoorsModel", name := "number", desc := "(II)Z" } : Jvm.MethodName)) ∈ UW := uw_in 730 (by decide +kernel) (by decide +kernel)
theorem q_695 : (Jvm.Cond.code ({ cls := "NeverBothDoorsModel", name := "number", desc := "(II)Z" } : Jvm.MethodName) prog_6_method_12_code (4 : Nat) (Option.some Jvm.ClassFile.FieldType.boolean)) ∈ UW := uw_in 731 (by decide +kernel) (by decide +kernel)
theorem q_696 : (Jvm.Cond.methodLink "NeverBothDoorsModel" (94 : Nat) ({ cls := "NeverBothDoorsModel", name := "isDigit", desc := "()Z" } : Jvm.MethodName)) ∈ UW := uw_in 732 (by decide +kernel) (by decide +kernel)
theorem q_698 : (Jvm.Cond.instanceMethod ({ cls := "NeverBothDoorsModel", name := "isDigit", desc := "()Z" } : Jvm.MethodName)) ∈ UW := uw_in 734 (by decide +kernel) (by decide +kernel)
theorem q_699 : (Jvm.Cond.code ({ cls := "NeverBothDoorsModel", name := "isDigit", desc := "()Z" } : Jvm.MethodName) prog_6_method_11_code (1 : Nat) (Option.some Jvm.ClassFile.FieldType.boolean)) ∈ UW := uw_in 735 (by decide +kernel) (by decide +kernel)
theorem q_700 : (Jvm.Cond.methodLink "NeverBothDoorsModel" (115 : Nat) ({ cls := "NeverBothDoorsModel", name := "newLock", desc := "(IIII)V" } : Jvm.MethodName)) ∈ UW := uw_in 736 (by decide +kernel) (by decide +kernel)
theorem q_702 : (Jvm.Cond.instanceMethod ({ cls := "NeverBothDoorsModel", name := "newLock", desc := "(IIII)V" } : Jvm.MethodName)) ∈ UW := uw_in 738 (by decide +kernel) (by decide +kernel)
theorem q_703 : (Jvm.Cond.code ({ cls := "NeverBothDoorsModel", name := "newLock", desc := "(IIII)V" } : Jvm.MethodName) prog_6_method_13_code (5 : Nat) (Option.none : Option Jvm.ClassFile.FieldType)) ∈ UW := uw_in 739 (by decide +kernel) (by decide +kernel)
theorem q_704 : (Jvm.Cond.methodLink "NeverBothDoorsModel" (98 : Nat) ({ cls := "java/lang/Math", name := "min", desc := "(II)I" } : Jvm.MethodName)) ∈ UW := uw_in 740 (by decide +kernel) (by decide +kernel)
theorem q_705 : (Jvm.Cond.methodLink "NeverBothDoorsModel" (104 : Nat) ({ cls := "java/lang/Math", name := "max", desc := "(II)I" } : Jvm.MethodName)) ∈ UW := uw_in 741 (by decide +kernel) (by decide +kernel)
theorem q_707 : (Jvm.Cond.methodLink "NeverBothDoorsModel" (121 : Nat) ({ cls := "java/lang/String", name := "indexOf", desc := "(I)I" } : Jvm.MethodName)) ∈ UW := uw_in 743 (by decide +kernel) (by decide +kernel)
theorem q_708 : (Jvm.Cond.instanceMethod ({ cls := "java/lang/String", name := "indexOf", desc := "(I)I" } : Jvm.MethodName)) ∈ UW := uw_in 744 (by decide +kernel) (by decide +kernel)
theorem q_709 : (Jvm.Cond.selects "java/lang/String" ({ cls := "java/lang/String", name := "indexOf", desc := "(I)I" } : Jvm.MethodName) ({ cls := "java/lang/String", name := "indexOf", desc := "(I)I" } : Jvm.MethodName)) ∈ UW := uw_in 745 (by decide +kernel) (by decide +kernel)
theorem q_710 : (Jvm.Cond.code ({ cls := "java/lang/String", name := "indexOf", desc := "(I)I" } : Jvm.MethodName) prog_10_method_79_code (2 : Nat) (Option.some Jvm.ClassFile.FieldType.int)) ∈ UW := uw_in 746 (by decide +kernel) (by decide +kernel)
theorem q_711 : (Jvm.Cond.methodLink "java/lang/String" (633 : Nat) ({ cls := "java/lang/String", name := "indexOf", desc := "(II)I" } : Jvm.MethodName)) ∈ UW := uw_in 747 (by decide +kernel) (by decide +kernel)
theorem q_712 : (Jvm.Cond.instanceMethod ({ cls := "java/lang/String", name := "indexOf", desc := "(II)I" } : Jvm.MethodName)) ∈ UW := uw_in 748 (by decide +kernel) (by decide +kernel)
theorem q_713 : (Jvm.Cond.selects "java/lang/String" ({ cls := "java/lang/String", name := "indexOf", desc := "(II)I" } : Jvm.MethodName) ({ cls := "java/lang/String", name := "indexOf", desc := "(II)I" } : Jvm.MethodName)) ∈ UW := uw_in 749 (by decide +kernel) (by decide +kernel)
theorem q_714 : (Jvm.Cond.code ({ cls := "java/lang/String", name := "indexOf", desc := "(II)I" } : Jvm.MethodName) prog_10_method_80_code (3 : Nat) (Option.some Jvm.ClassFile.FieldType.int)) ∈ UW := uw_in 750 (by decide +kernel) (by decide +kernel)
theorem q_715 : (Jvm.Cond.methodLink "java/lang/String" (505 : Nat) ({ cls := "java/lang/String", name := "length", desc := "()I" } : Jvm.MethodName)) ∈ UW := uw_in 751 (by decide +kernel) (by decide +kernel)
theorem q_716 : (Jvm.Cond.methodLink "java/lang/String" (637 : Nat) ({ cls := "java/lang/StringLatin1", name := "indexOf", desc := "([BIII)I" } : Jvm.MethodName)) ∈ UW := uw_in 752 (by decide +kernel) (by decide +kernel)
theorem q_717 : (Jvm.Cond.static ({ cls := "java/lang/StringLatin1", name := "indexOf", desc := "([BIII)I" } : Jvm.MethodName)) ∈ UW := uw_in 753 (by decide +kernel) (by decide +kernel)
theorem q_718 : (Jvm.Cond.code ({ cls := "java/lang/StringLatin1", name := "indexOf", desc := "([BIII)I" } : Jvm.MethodName) prog_11_method_22_code (4 : Nat) (Option.some Jvm.ClassFile.FieldType.int)) ∈ UW := uw_in 754 (by decide +kernel) (by decide +kernel)
theorem q_719 : (Jvm.Cond.methodLink "java/lang/StringLatin1" (88 : Nat) ({ cls := "java/lang/StringLatin1", name := "canEncode", desc := "(I)Z" } : Jvm.MethodName)) ∈ UW := uw_in 755 (by decide +kernel) (by decide +kernel)
theorem q_720 : (Jvm.Cond.static ({ cls := "java/lang/StringLatin1", name := "canEncode", desc := "(I)Z" } : Jvm.MethodName)) ∈ UW := uw_in 756 (by decide +kernel) (by decide +kernel)
theorem q_721 : (Jvm.Cond.code ({ cls := "java/lang/StringLatin1", name := "canEncode", desc := "(I)Z" } : Jvm.MethodName) prog_11_method_4_code (1 : Nat) (Option.some Jvm.ClassFile.FieldType.boolean)) ∈ UW := uw_in 757 (by decide +kernel) (by decide +kernel)
theorem q_722 : (Jvm.Cond.methodLink "java/lang/StringLatin1" (92 : Nat) ({ cls := "java/lang/Math", name := "max", desc := "(II)I" } : Jvm.MethodName)) ∈ UW := uw_in 758 (by decide +kernel) (by decide +kernel)
theorem q_723 : (Jvm.Cond.methodLink "java/lang/StringLatin1" (38 : Nat) ({ cls := "java/lang/Math", name := "min", desc := "(II)I" } : Jvm.MethodName)) ∈ UW := uw_in 759 (by decide +kernel) (by decide +kernel)
theorem q_724 : (Jvm.Cond.methodLink "java/lang/StringLatin1" (95 : Nat) ({ cls := "java/lang/StringLatin1", name := "indexOfChar", desc := "([BIII)I" } : Jvm.MethodName)) ∈ UW := uw_in 760 (by decide +kernel) (by decide +kernel)
theorem q_725 : (Jvm.Cond.static ({ cls := "java/lang/StringLatin1", name := "indexOfChar", desc := "([BIII)I" } : Jvm.MethodName)) ∈ UW := uw_in 761 (by decide +kernel) (by decide +kernel)
theorem q_726 : (Jvm.Cond.code ({ cls := "java/lang/StringLatin1", name := "indexOfChar", desc := "([BIII)I" } : Jvm.MethodName) prog_11_method_23_code (6 : Nat) (Option.some Jvm.ClassFile.FieldType.int)) ∈ UW := uw_in 762 (by decide +kernel) (by decide +kernel)
theorem q_727 : (Jvm.Cond.methodLink "java/lang/String" (640 : Nat) ({ cls := "java/lang/StringUTF16", name := "indexOf", desc := "([BIII)I" } : Jvm.MethodName)) ∈ UW := uw_in 763 (by decide +kernel) (by decide +kernel)
theorem q_728 : (Jvm.Cond.static ({ cls := "java/lang/StringUTF16", name := "indexOf", desc := "([BIII)I" } : Jvm.MethodName)) ∈ UW := uw_in 764 (by decide +kernel) (by decide +kernel)
theorem q_729 : (Jvm.Cond.code ({ cls := "java/lang/StringUTF16", name := "indexOf", desc := "([BIII)I" } : Jvm.MethodName) prog_12_method_40_code (4 : Nat) (Option.some Jvm.ClassFile.FieldType.int)) ∈ UW := uw_in 765 (by decide +kernel) (by decide +kernel)
theorem q_730 : (Jvm.Cond.methodLink "java/lang/StringUTF16" (224 : Nat) ({ cls := "java/lang/Math", name := "max", desc := "(II)I" } : Jvm.MethodName)) ∈ UW := uw_in 766 (by decide +kernel) (by decide +kernel)
theorem q_731 : (Jvm.Cond.methodLink "java/lang/StringUTF16" (183 : Nat) ({ cls := "java/lang/Math", name := "min", desc := "(II)I" } : Jvm.MethodName)) ∈ UW := uw_in 767 (by decide +kernel) (by decide +kernel)
theorem q_732 : (Jvm.Cond.constant "java/lang/StringUTF16" (227 : Nat) (65536 : Int32)) ∈ UW := uw_in 768 (by decide +kernel) (by decide +kernel)
theorem q_733 : (Jvm.Cond.methodLink "java/lang/StringUTF16" (228 : Nat) ({ cls := "java/lang/StringUTF16", name := "indexOfChar", desc := "([BIII)I" } : Jvm.MethodName)) ∈ UW := uw_in 769 (by decide +kernel) (by decide +kernel)
theorem q_734 : (Jvm.Cond.static ({ cls := "java/lang/StringUTF16", name := "indexOfChar", desc := "([BIII)I" } : Jvm.MethodName)) ∈ UW := uw_in 770 (by decide +kernel) (by decide +kernel)
theorem q_735 : (Jvm.Cond.code ({ cls := "java/lang/StringUTF16", name := "indexOfChar", desc := "([BIII)I" } : Jvm.MethodName) prog_12_method_47_code (4 : Nat) (Option.some Jvm.ClassFile.FieldType.int)) ∈ UW := uw_in 771 (by decide +kernel) (by decide +kernel)
theorem q_736 : (Jvm.Cond.methodLink "java/lang/StringUTF16" (96 : Nat) ({ cls := "java/lang/StringUTF16", name := "checkBoundsBeginEnd", desc := "(II[B)V" } : Jvm.MethodName)) ∈ UW := uw_in 772 (by decide +kernel) (by decide +kernel)
theorem q_737 : (Jvm.Cond.static ({ cls := "java/lang/StringUTF16", name := "checkBoundsBeginEnd", desc := "(II[B)V" } : Jvm.MethodName)) ∈ UW := uw_in 773 (by decide +kernel) (by decide +kernel)
theorem q_738 : (Jvm.Cond.code ({ cls := "java/lang/StringUTF16", name := "checkBoundsBeginEnd", desc := "(II[B)V" } : Jvm.MethodName) prog_12_method_93_code (3 : Nat) (Option.none : Option Jvm.ClassFile.FieldType)) ∈ UW := uw_in 774 (by decide +kernel) (by decide +kernel)
theorem q_739 : (Jvm.Cond.methodLink "java/lang/StringUTF16" (241 : Nat) ({ cls := "java/lang/String", name := "checkBoundsBeginEnd", desc := "(III)V" } : Jvm.MethodName)) ∈ UW := uw_in 775 (by decide +kernel) (by decide +kernel)
theorem q_740 : (Jvm.Cond.static ({ cls := "java/lang/String", name := "checkBoundsBeginEnd", desc := "(III)V" } : Jvm.MethodName)) ∈ UW := uw_in 776 (by decide +kernel) (by decide +kernel)
theorem q_741 : (Jvm.Cond.code ({ cls := "java/lang/String", name := "checkBoundsBeginEnd", desc := "(III)V" } : Jvm.MethodName) prog_10_method_158_code (3 : Nat) (Option.none : Option Jvm.ClassFile.FieldType)) ∈ UW := uw_in 777 (by decide +kernel) (by decide +kernel)
theorem q_742 : (Jvm.Cond.methodLink "java/lang/String" (1062 : Nat) ({ cls := "jdk/internal/util/Preconditions", name := "checkFromToIndex", desc := "(IIILjava/util/function/BiFunction;)I" } : Jvm.MethodName)) ∈ UW := uw_in 778 (by decide +kernel) (by decide +kernel)
theorem q_743 : (Jvm.Cond.static ({ cls := "jdk/internal/util/Preconditions", name := "checkFromToIndex", desc := "(IIILjava/util/function/BiFunction;)I" } : Jvm.MethodName)) ∈ UW := uw_in 779 (by decide +kernel) (by decide +kernel)
theorem q_744 : (Jvm.Cond.code ({ cls := "jdk/internal/util/Preconditions", name := "checkFromToIndex", desc := "(IIILjava/util/function/BiFunction;)I" } : Jvm.MethodName) prog_15_method_12_code (4 : Nat) (Option.some Jvm.ClassFile.FieldType.int)) ∈ UW := uw_in 780 (by decide +kernel) (by decide +kernel)
theorem q_745 : (Jvm.Cond.methodLink "java/lang/StringUTF16" (244 : Nat) ({ cls := "java/lang/StringUTF16", name := "indexOfCharUnsafe", desc := "([BIII)I" } : Jvm.MethodName)) ∈ UW := uw_in 781 (by decide +kernel) (by decide +kernel)
theorem q_746 : (Jvm.Cond.static ({ cls := "java/lang/StringUTF16", name := "indexOfCharUnsafe", desc := "([BIII)I" } : Jvm.MethodName)) ∈ UW := uw_in 782 (by decide +kernel) (by decide +kernel)
theorem q_747 : (Jvm.Cond.code ({ cls := "java/lang/StringUTF16", name := "indexOfCharUnsafe", desc := "([BIII)I" } : Jvm.MethodName) prog_12_method_48_code (5 : Nat) (Option.some Jvm.ClassFile.FieldType.int)) ∈ UW := uw_in 783 (by decide +kernel) (by decide +kernel)
theorem q_748 : (Jvm.Cond.methodLink "java/lang/StringUTF16" (232 : Nat) ({ cls := "java/lang/StringUTF16", name := "indexOfSupplementary", desc := "([BIII)I" } : Jvm.MethodName)) ∈ UW := uw_in 784 (by decide +kernel) (by decide +kernel)
theorem q_749 : (Jvm.Cond.static ({ cls := "java/lang/StringUTF16", name := "indexOfSupplementary", desc := "([BIII)I" } : Jvm.MethodName)) ∈ UW := uw_in 785 (by decide +kernel) (by decide +kernel)
theorem q_750 : (Jvm.Cond.code ({ cls := "java/lang/StringUTF16", name := "indexOfSupplementary", desc := "([BIII)I" } : Jvm.MethodName) prog_12_method_49_code (7 : Nat) (Option.some Jvm.ClassFile.FieldType.int)) ∈ UW := uw_in 786 (by decide +kernel) (by decide +kernel)
theorem q_751 : (Jvm.Cond.methodLink "java/lang/StringUTF16" (164 : Nat) ({ cls := "java/lang/Character", name := "isValidCodePoint", desc := "(I)Z" } : Jvm.MethodName)) ∈ UW := uw_in 787 (by decide +kernel) (by decide +kernel)
theorem q_752 : (Jvm.Cond.static ({ cls := "java/lang/Character", name := "isValidCodePoint", desc := "(I)Z" } : Jvm.MethodName)) ∈ UW := uw_in 788 (by decide +kernel) (by decide +kernel)
theorem q_753 : (Jvm.Cond.code ({ cls := "java/lang/Character", name := "isValidCodePoint", desc := "(I)Z" } : Jvm.MethodName) prog_7_method_11_code (2 : Nat) (Option.some Jvm.ClassFile.FieldType.boolean)) ∈ UW := uw_in 789 (by decide +kernel) (by decide +kernel)
theorem q_754 : (Jvm.Cond.methodLink "java/lang/StringUTF16" (157 : Nat) ({ cls := "java/lang/Character", name := "highSurrogate", desc := "(I)C" } : Jvm.MethodName)) ∈ UW := uw_in 790 (by decide +kernel) (by decide +kernel)
theorem q_755 : (Jvm.Cond.static ({ cls := "java/lang/Character", name := "highSurrogate", desc := "(I)C" } : Jvm.MethodName)) ∈ UW := uw_in 791 (by decide +kernel) (by decide +kernel)
theorem q_756 : (Jvm.Cond.code ({ cls := "java/lang/Character", name := "highSurrogate", desc := "(I)C" } : Jvm.MethodName) prog_7_method_28_code (1 : Nat) (Option.some Jvm.ClassFile.FieldType.char)) ∈ UW := uw_in 792 (by decide +kernel) (by decide +kernel)
theorem q_757 : (Jvm.Cond.constant "java/lang/Character" (110 : Nat) (55232 : Int32)) ∈ UW := uw_in 793 (by decide +kernel) (by decide +kernel)
theorem q_758 : (Jvm.Cond.methodLink "java/lang/StringUTF16" (161 : Nat) ({ cls := "java/lang/Character", name := "lowSurrogate", desc := "(I)C" } : Jvm.MethodName)) ∈ UW := uw_in 794 (by decide +kernel) (by decide +kernel)
theorem q_759 : (Jvm.Cond.static ({ cls := "java/lang/Character", name := "lowSurrogate", desc := "(I)C" } : Jvm.MethodName)) ∈ UW := uw_in 795 (by decide +kernel) (by decide +kernel)
theorem q_760 : (Jvm.Cond.code ({ cls := "java/lang/Character", name := "lowSurrogate", desc := "(I)C" } : Jvm.MethodName) prog_7_method_29_code (1 : Nat) (Option.some Jvm.ClassFile.FieldType.char)) ∈ UW := uw_in 796 (by decide +kernel) (by decide +kernel)
theorem q_761 : (Jvm.Cond.constant "java/lang/Character" (76 : Nat) (56320 : Int32)) ∈ UW := uw_in 797 (by decide +kernel) (by decide +kernel)
theorem q_762 : (Jvm.Cond.methodLink "NeverBothDoorsModel" (73 : Nat) ({ cls := "NeverBothDoorsModel", name := "within", desc := "(III)Z" } : Jvm.MethodName)) ∈ UW := uw_in 798 (by decide +kernel) (by decide +kernel)
theorem q_763 : (Jvm.Cond.static ({ cls := "NeverBothDoorsModel", name := "within", desc := "(III)Z" } : Jvm.MethodName)) ∈ UW := uw_in 799 (by decide +kernel) (by decide +kernel)
theorem q_764 : (Jvm.Cond.code ({ cls := "NeverBothDoorsModel", name := "within", desc := "(III)Z" } : Jvm.MethodName) prog_6_method_3_code (3 : Nat) (Option.some Jvm.ClassFile.FieldType.boolean)) ∈ UW := uw_in 800 (by decide +kernel) (by decide +kernel)
theorem q_765 : (Jvm.Cond.methodLink "NeverBothDoorsModel" (130 : Nat) ({ cls := "NeverBothDoorsModel", name := "keep", desc := "([I)V" } : Jvm.MethodName)) ∈ UW := uw_in 801 (by decide +kernel) (by decide +kernel)
theorem q_767 : (Jvm.Cond.instanceMethod ({ cls := "NeverBothDoorsModel", name := "keep", desc := "([I)V" } : Jvm.MethodName)) ∈ UW := uw_in 803 (by decide +kernel) (by decide +kernel)
theorem q_768 : (Jvm.Cond.code ({ cls := "NeverBothDoorsModel", name := "keep", desc := "([I)V" } : Jvm.MethodName) prog_6_method_49_code (3 : Nat) (Option.none : Option Jvm.ClassFile.FieldType)) ∈ UW := uw_in 804 (by decide +kernel) (by decide +kernel)
theorem q_769 : (Jvm.Cond.methodLink "NeverBothDoorsModel" (134 : Nat) ({ cls := "NeverBothDoorsModel", name := "again", desc := "([I)V" } : Jvm.MethodName)) ∈ UW := uw_in 805 (by decide +kernel) (by decide +kernel)
theorem q_771 : (Jvm.Cond.instanceMethod ({ cls := "NeverBothDoorsModel", name := "again", desc := "([I)V" } : Jvm.MethodName)) ∈ UW := uw_in 807 (by decide +kernel) (by decide +kernel)
theorem q_772 : (Jvm.Cond.code ({ cls := "NeverBothDoorsModel", name := "again", desc := "([I)V" } : Jvm.MethodName) prog_6_method_50_code (3 : Nat) (Option.none : Option Jvm.ClassFile.FieldType)) ∈ UW := uw_in 808 (by decide +kernel) (by decide +kernel)
theorem q_773 : (Jvm.Cond.methodLink "NeverBothDoorsLaw" (27 : Nat) ({ cls := "NeverBothDoorsModel", name := "room", desc := "(II)I" } : Jvm.MethodName)) ∈ UW := uw_in 809 (by decide +kernel) (by decide +kernel)
theorem q_774 : (Jvm.Cond.instanceMethod ({ cls := "NeverBothDoorsModel", name := "room", desc := "(II)I" } : Jvm.MethodName)) ∈ UW := uw_in 810 (by decide +kernel) (by decide +kernel)
theorem q_775 : (Jvm.Cond.selects "NeverBothDoorsModel" ({ cls := "NeverBothDoorsModel", name := "room", desc := "(II)I" } : Jvm.MethodName) ({ cls := "NeverBothDoorsModel", name := "room", desc := "(II)I" } : Jvm.MethodName)) ∈ UW := uw_in 811 (by decide +kernel) (by decide +kernel)
theorem q_776 : (Jvm.Cond.code ({ cls := "NeverBothDoorsModel", name := "room", desc := "(II)I" } : Jvm.MethodName) prog_6_method_20_code (3 : Nat) (Option.some Jvm.ClassFile.FieldType.int)) ∈ UW := uw_in 812 (by decide +kernel) (by decide +kernel)
theorem q_777 : (Jvm.Cond.methodLink "NeverBothDoorsModel" (152 : Nat) ({ cls := "NeverBothDoorsModel", name := "isRoom", desc := "(I)Z" } : Jvm.MethodName)) ∈ UW := uw_in 813 (by decide +kernel) (by decide +kernel)
theorem q_778 : (Jvm.Cond.static ({ cls := "NeverBothDoorsModel", name := "isRoom", desc := "(I)Z" } : Jvm.MethodName)) ∈ UW := uw_in 814 (by decide +kernel) (by decide +kernel)
theorem q_779 : (Jvm.Cond.code ({ cls := "NeverBothDoorsModel", name := "isRoom", desc := "(I)Z" } : Jvm.MethodName) prog_6_method_5_code (1 : Nat) (Option.some Jvm.ClassFile.FieldType.boolean)) ∈ UW := uw_in 815 (by decide +kernel) (by decide +kernel)
theorem q_780 : (Jvm.Cond.methodLink "NeverBothDoorsModel" (137 : Nat) ({ cls := "NeverBothDoorsModel", name := "there", desc := "(I)I" } : Jvm.MethodName)) ∈ UW := uw_in 816 (by decide +kernel) (by decide +kernel)
theorem q_782 : (Jvm.Cond.instanceMethod ({ cls := "NeverBothDoorsModel", name := "there", desc := "(I)I" } : Jvm.MethodName)) ∈ UW := uw_in 818 (by decide +kernel) (by decide +kernel)
theorem q_783 : (Jvm.Cond.code ({ cls := "NeverBothDoorsModel", name := "there", desc := "(I)I" } : Jvm.MethodName) prog_6_method_16_code (4 : Nat) (Option.some Jvm.ClassFile.FieldType.int)) ∈ UW := uw_in 819 (by decide +kernel) (by decide +kernel)
theorem q_784 : (Jvm.Cond.methodLink "NeverBothDoorsModel" (143 : Nat) ({ cls := "NeverBothDoorsModel", name := "breathed", desc := "(I)I" } : Jvm.MethodName)) ∈ UW := uw_in 820 (by decide +kernel) (by decide +kernel)
theorem q_786 : (Jvm.Cond.instanceMethod ({ cls := "NeverBothDoorsModel", name := "breathed", desc := "(I)I" } : Jvm.MethodName)) ∈ UW := uw_in 822 (by decide +kernel) (by decide +kernel)
theorem q_787 : (Jvm.Cond.code ({ cls := "NeverBothDoorsModel", name := "breathed", desc := "(I)I" } : Jvm.MethodName) prog_6_method_18_code (4 : Nat) (Option.some Jvm.ClassFile.FieldType.int)) ∈ UW := uw_in 823 (by decide +kernel) (by decide +kernel)
theorem q_788 : (Jvm.Cond.methodLink "NeverBothDoorsModel" (140 : Nat) ({ cls := "NeverBothDoorsModel", name := "breath", desc := "(I)I" } : Jvm.MethodName)) ∈ UW := uw_in 824 (by decide +kernel) (by decide +kernel)
theorem q_790 : (Jvm.Cond.instanceMethod ({ cls := "NeverBothDoorsModel", name := "breath", desc := "(I)I" } : Jvm.MethodName)) ∈ UW := uw_in 826 (by decide +kernel) (by decide +kernel)
theorem q_791 : (Jvm.Cond.code ({ cls := "NeverBothDoorsModel", name := "breath", desc := "(I)I" } : Jvm.MethodName) prog_6_method_17_code (2 : Nat) (Option.some Jvm.ClassFile.FieldType.int)) ∈ UW := uw_in 827 (by decide +kernel) (by decide +kernel)
theorem q_792 : (Jvm.Cond.methodLink "NeverBothDoorsLaw" (31 : Nat) ({ cls := "NeverBothDoorsModel", name := "lock", desc := "(II)I" } : Jvm.MethodName)) ∈ UW := uw_in 828 (by decide +kernel) (by decide +kernel)
theorem q_793 : (Jvm.Cond.instanceMethod ({ cls := "NeverBothDoorsModel", name := "lock", desc := "(II)I" } : Jvm.MethodName)) ∈ UW := uw_in 829 (by decide +kernel) (by decide +kernel)
theorem q_794 : (Jvm.Cond.selects "NeverBothDoorsModel" ({ cls := "NeverBothDoorsModel", name := "lock", desc := "(II)I" } : Jvm.MethodName) ({ cls := "NeverBothDoorsModel", name := "lock", desc := "(II)I" } : Jvm.MethodName)) ∈ UW := uw_in 830 (by decide +kernel) (by decide +kernel)
theorem q_795 : (Jvm.Cond.code ({ cls := "NeverBothDoorsModel", name := "lock", desc := "(II)I" } : Jvm.MethodName) prog_6_method_21_code (3 : Nat) (Option.some Jvm.ClassFile.FieldType.int)) ∈ UW := uw_in 831 (by decide +kernel) (by decide +kernel)
theorem q_796 : (Jvm.Cond.methodLink "NeverBothDoorsModel" (155 : Nat) ({ cls := "NeverBothDoorsModel", name := "isLock", desc := "(I)Z" } : Jvm.MethodName)) ∈ UW := uw_in 832 (by decide +kernel) (by decide +kernel)
theorem q_798 : (Jvm.Cond.instanceMethod ({ cls := "NeverBothDoorsModel", name := "isLock", desc := "(I)Z" } : Jvm.MethodName)) ∈ UW := uw_in 834 (by decide +kernel) (by decide +kernel)
theorem q_799 : (Jvm.Cond.code ({ cls := "NeverBothDoorsModel", name := "isLock", desc := "(I)Z" } : Jvm.MethodName) prog_6_method_7_code (2 : Nat) (Option.some Jvm.ClassFile.FieldType.boolean)) ∈ UW := uw_in 835 (by decide +kernel) (by decide +kernel)
theorem q_800 : (Jvm.Cond.methodLink "NeverBothDoorsLaw" (35 : Nat) ({ cls := "NeverBothDoorsModel", name := "person", desc := "(II)I" } : Jvm.MethodName)) ∈ UW := uw_in 836 (by decide +kernel) (by decide +kernel)
theorem q_801 : (Jvm.Cond.instanceMethod ({ cls := "NeverBothDoorsModel", name := "person", desc := "(II)I" } : Jvm.MethodName)) ∈ UW := uw_in 837 (by decide +kernel) (by decide +kernel)
theorem q_802 : (Jvm.Cond.selects "NeverBothDoorsModel" ({ cls := "NeverBothDoorsModel", name := "person", desc := "(II)I" } : Jvm.MethodName) ({ cls := "NeverBothDoorsModel", name := "person", desc := "(II)I" } : Jvm.MethodName)) ∈ UW := uw_in 838 (by decide +kernel) (by decide +kernel)
theorem q_803 : (Jvm.Cond.code ({ cls := "NeverBothDoorsModel", name := "person", desc := "(II)I" } : Jvm.MethodName) prog_6_method_22_code (3 : Nat) (Option.some Jvm.ClassFile.FieldType.int)) ∈ UW := uw_in 839 (by decide +kernel) (by decide +kernel)
theorem q_804 : (Jvm.Cond.methodLink "NeverBothDoorsModel" (158 : Nat) ({ cls := "NeverBothDoorsModel", name := "isOne", desc := "(I)Z" } : Jvm.MethodName)) ∈ UW := uw_in 840 (by decide +kernel) (by decide +kernel)
theorem q_806 : (Jvm.Cond.instanceMethod ({ cls := "NeverBothDoorsModel", name := "isOne", desc := "(I)Z" } : Jvm.MethodName)) ∈ UW := uw_in 842 (by decide +kernel) (by decide +kernel)
theorem q_807 : (Jvm.Cond.code ({ cls := "NeverBothDoorsModel", name := "isOne", desc := "(I)Z" } : Jvm.MethodName) prog_6_method_8_code (2 : Nat) (Option.some Jvm.ClassFile.FieldType.boolean)) ∈ UW := uw_in 843 (by decide +kernel) (by decide +kernel)
theorem q_808 : (Jvm.Cond.methodLink "NeverBothDoorsLaw" (39 : Nat) ({ cls := "NeverBothDoorsModel", name := "open", desc := "(II)I" } : Jvm.MethodName)) ∈ UW := uw_in 844 (by decide +kernel) (by decide +kernel)
theorem q_809 : (Jvm.Cond.instanceMethod ({ cls := "NeverBothDoorsModel", name := "open", desc := "(II)I" } : Jvm.MethodName)) ∈ UW := uw_in 845 (by decide +kernel) (by decide +kernel)
theorem q_810 : (Jvm.Cond.selects "NeverBothDoorsModel" ({ cls := "NeverBothDoorsModel", name := "open", desc := "(II)I" } : Jvm.MethodName) ({ cls := "NeverBothDoorsModel", name := "open", desc := "(II)I" } : Jvm.MethodName)) ∈ UW := uw_in 846 (by decide +kernel) (by decide +kernel)
theorem q_811 : (Jvm.Cond.code ({ cls := "NeverBothDoorsModel", name := "open", desc := "(II)I" } : Jvm.MethodName) prog_6_method_23_code (4 : Nat) (Option.some Jvm.ClassFile.FieldType.int)) ∈ UW := uw_in 847 (by decide +kernel) (by decide +kernel)
theorem q_812 : (Jvm.Cond.methodLink "NeverBothDoorsLaw" (43 : Nat) ({ cls := "NeverBothDoorsModel", name := "passes", desc := "(II)I" } : Jvm.MethodName)) ∈ UW := uw_in 848 (by decide +kernel) (by decide +kernel)
theorem q_813 : (Jvm.Cond.instanceMethod ({ cls := "NeverBothDoorsModel", name := "passes", desc := "(II)I" } : Jvm.MethodName)) ∈ UW := uw_in 849 (by decide +kernel) (by decide +kernel)
theorem q_814 : (Jvm.Cond.selects "NeverBothDoorsModel" ({ cls := "NeverBothDoorsModel", name := "passes", desc := "(II)I" } : Jvm.MethodName) ({ cls := "NeverBothDoorsModel", name := "passes", desc := "(II)I" } : Jvm.MethodName)) ∈ UW := uw_in 850 (by decide +kernel) (by decide +kernel)
theorem q_815 : (Jvm.Cond.code ({ cls := "NeverBothDoorsModel", name := "passes", desc := "(II)I" } : Jvm.MethodName) prog_6_method_26_code (3 : Nat) (Option.some Jvm.ClassFile.FieldType.int)) ∈ UW := uw_in 851 (by decide +kernel) (by decide +kernel)
theorem q_816 : (Jvm.Cond.methodLink "NeverBothDoorsModel" (164 : Nat) ({ cls := "NeverBothDoorsModel", name := "canPass", desc := "(II)Z" } : Jvm.MethodName)) ∈ UW := uw_in 852 (by decide +kernel) (by decide +kernel)
theorem q_818 : (Jvm.Cond.instanceMethod ({ cls := "NeverBothDoorsModel", name := "canPass", desc := "(II)Z" } : Jvm.MethodName)) ∈ UW := uw_in 854 (by decide +kernel) (by decide +kernel)
theorem q_819 : (Jvm.Cond.code ({ cls := "NeverBothDoorsModel", name := "canPass", desc := "(II)Z" } : Jvm.MethodName) prog_6_method_24_code (3 : Nat) (Option.some Jvm.ClassFile.FieldType.boolean)) ∈ UW := uw_in 855 (by decide +kernel) (by decide +kernel)
theorem q_820 : (Jvm.Cond.methodLink "NeverBothDoorsModel" (167 : Nat) ({ cls := "NeverBothDoorsModel", name := "pass", desc := "(II)I" } : Jvm.MethodName)) ∈ UW := uw_in 856 (by decide +kernel) (by decide +kernel)
theorem q_822 : (Jvm.Cond.instanceMethod ({ cls := "NeverBothDoorsModel", name := "pass", desc := "(II)I" } : Jvm.MethodName)) ∈ UW := uw_in 858 (by decide +kernel) (by decide +kernel)
theorem q_823 : (Jvm.Cond.code ({ cls := "NeverBothDoorsModel", name := "pass", desc := "(II)I" } : Jvm.MethodName) prog_6_method_25_code (3 : Nat) (Option.some Jvm.ClassFile.FieldType.int)) ∈ UW := uw_in 859 (by decide +kernel) (by decide +kernel)
theorem q_824 : (Jvm.Cond.methodLink "NeverBothDoorsModel" (161 : Nat) ({ cls := "NeverBothDoorsModel", name := "goBy", desc := "(I)I" } : Jvm.MethodName)) ∈ UW := uw_in 860 (by decide +kernel) (by decide +kernel)
theorem q_826 : (Jvm.Cond.instanceMethod ({ cls := "NeverBothDoorsModel", name := "goBy", desc := "(I)I" } : Jvm.MethodName)) ∈ UW := uw_in 862 (by decide +kernel) (by decide +kernel)
theorem q_827 : (Jvm.Cond.code ({ cls := "NeverBothDoorsModel", name := "goBy", desc := "(I)I" } : Jvm.MethodName) prog_6_method_19_code (6 : Nat) (Option.some Jvm.ClassFile.FieldType.int)) ∈ UW := uw_in 863 (by decide +kernel) (by decide +kernel)
theorem q_828 : (Jvm.Cond.methodLink "NeverBothDoorsLaw" (47 : Nat) ({ cls := "NeverBothDoorsModel", name := "minutes", desc := "(I)I" } : Jvm.MethodName)) ∈ UW := uw_in 864 (by decide +kernel) (by decide +kernel)
theorem q_829 : (Jvm.Cond.instanceMethod ({ cls := "NeverBothDoorsModel", name := "minutes", desc := "(I)I" } : Jvm.MethodName)) ∈ UW := uw_in 865 (by decide +kernel) (by decide +kernel)
theorem q_830 : (Jvm.Cond.selects "NeverBothDoorsModel" ({ cls := "NeverBothDoorsModel", name := "minutes", desc := "(I)I" } : Jvm.MethodName) ({ cls := "NeverBothDoorsModel", name := "minutes", desc := "(I)I" } : Jvm.MethodName)) ∈ UW := uw_in 866 (by decide +kernel) (by decide +kernel)
theorem q_831 : (Jvm.Cond.code ({ cls := "NeverBothDoorsModel", name := "minutes", desc := "(I)I" } : Jvm.MethodName) prog_6_method_27_code (2 : Nat) (Option.some Jvm.ClassFile.FieldType.int)) ∈ UW := uw_in 867 (by decide +kernel) (by decide +kernel)
theorem q_832 : (Jvm.Cond.methodLink "NeverBothDoorsLaw" (51 : Nat) ({ cls := "NeverBothDoorsModel", name := "leak", desc := "(II)I" } : Jvm.MethodName)) ∈ UW := uw_in 868 (by decide +kernel) (by decide +kernel)
theorem q_833 : (Jvm.Cond.instanceMethod ({ cls := "NeverBothDoorsModel", name := "leak", desc := "(II)I" } : Jvm.MethodName)) ∈ UW := uw_in 869 (by decide +kernel) (by decide +kernel)
theorem q_834 : (Jvm.Cond.selects "NeverBothDoorsModel" ({ cls := "NeverBothDoorsModel", name := "leak", desc := "(II)I" } : Jvm.MethodName) ({ cls := "NeverBothDoorsModel", name := "leak", desc := "(II)I" } : Jvm.MethodName)) ∈ UW := uw_in 870 (by decide +kernel) (by decide +kernel)
theorem q_835 : (Jvm.Cond.code ({ cls := "NeverBothDoorsModel", name := "leak", desc := "(II)I" } : Jvm.MethodName) prog_6_method_28_code (4 : Nat) (Option.some Jvm.ClassFile.FieldType.int)) ∈ UW := uw_in 871 (by decide +kernel) (by decide +kernel)
theorem q_836 : (Jvm.Cond.methodLink "NeverBothDoorsLaw" (55 : Nat) ({ cls := "NeverBothDoorsModel", name := "air", desc := "(II)I" } : Jvm.MethodName)) ∈ UW := uw_in 872 (by decide +kernel) (by decide +kernel)
theorem q_837 : (Jvm.Cond.instanceMethod ({ cls := "NeverBothDoorsModel", name := "air", desc := "(II)I" } : Jvm.MethodName)) ∈ UW := uw_in 873 (by decide +kernel) (by decide +kernel)
theorem q_838 : (Jvm.Cond.selects "NeverBothDoorsModel" ({ cls := "NeverBothDoorsModel", name := "air", desc := "(II)I" } : Jvm.MethodName) ({ cls := "NeverBothDoorsModel", name := "air", desc := "(II)I" } : Jvm.MethodName)) ∈ UW := uw_in 874 (by decide +kernel) (by decide +kernel)
theorem q_839 : (Jvm.Cond.code ({ cls := "NeverBothDoorsModel", name := "air", desc := "(II)I" } : Jvm.MethodName) prog_6_method_29_code (4 : Nat) (Option.some Jvm.ClassFile.FieldType.int)) ∈ UW := uw_in 875 (by decide +kernel) (by decide +kernel)
theorem q_840 : (Jvm.Cond.methodLink "NeverBothDoorsLaw" (59 : Nat) ({ cls := "NeverBothDoorsModel", name := "gasps", desc := "(I)I" } : Jvm.MethodName)) ∈ UW := uw_in 876 (by decide +kernel) (by decide +kernel)
theorem q_841 : (Jvm.Cond.instanceMethod ({ cls := "NeverBothDoorsModel", name := "gasps", desc := "(I)I" } : Jvm.MethodName)) ∈ UW := uw_in 877 (by decide +kernel) (by decide +kernel)
theorem q_842 : (Jvm.Cond.selects "NeverBothDoorsModel" ({ cls := "NeverBothDoorsModel", name := "gasps", desc := "(I)I" } : Jvm.MethodName) ({ cls := "NeverBothDoorsModel", name := "gasps", desc := "(I)I" } : Jvm.MethodName)) ∈ UW := uw_in 878 (by decide +kernel) (by decide +kernel)
theorem q_843 : (Jvm.Cond.code ({ cls := "NeverBothDoorsModel", name := "gasps", desc := "(I)I" } : Jvm.MethodName) prog_6_method_30_code (3 : Nat) (Option.some Jvm.ClassFile.FieldType.int)) ∈ UW := uw_in 879 (by decide +kernel) (by decide +kernel)
theorem q_844 : (Jvm.Cond.methodLink "NeverBothDoorsLaw" (63 : Nat) ({ cls := "NeverBothDoorsModel", name := "out", desc := "()I" } : Jvm.MethodName)) ∈ UW := uw_in 880 (by decide +kernel) (by decide +kernel)
theorem q_845 : (Jvm.Cond.instanceMethod ({ cls := "NeverBothDoorsModel", name := "out", desc := "()I" } : Jvm.MethodName)) ∈ UW := uw_in 881 (by decide +kernel) (by decide +kernel)
theorem q_846 : (Jvm.Cond.selects "NeverBothDoorsModel" ({ cls := "NeverBothDoorsModel", name := "out", desc := "()I" } : Jvm.MethodName) ({ cls := "NeverBothDoorsModel", name := "out", desc := "()I" } : Jvm.MethodName)) ∈ UW := uw_in 882 (by decide +kernel) (by decide +kernel)
theorem q_847 : (Jvm.Cond.code ({ cls := "NeverBothDoorsModel", name := "out", desc := "()I" } : Jvm.MethodName) prog_6_method_31_code (2 : Nat) (Option.some Jvm.ClassFile.FieldType.int)) ∈ UW := uw_in 883 (by decide +kernel) (by decide +kernel)
theorem q_848 : (Jvm.Cond.methodLink "NeverBothDoorsLaw" (67 : Nat) ({ cls := "NeverBothDoorsModel", name := "way", desc := "(II)I" } : Jvm.MethodName)) ∈ UW := uw_in 884 (by decide +kernel) (by decide +kernel)
theorem q_849 : (Jvm.Cond.instanceMethod ({ cls := "NeverBothDoorsModel", name := "way", desc := "(II)I" } : Jvm.MethodName)) ∈ UW := uw_in 885 (by decide +kernel) (by decide +kernel)
theorem q_850 : (Jvm.Cond.selects "NeverBothDoorsModel" ({ cls := "NeverBothDoorsModel", name := "way", desc := "(II)I" } : Jvm.MethodName) ({ cls := "NeverBothDoorsModel", name := "way", desc := "(II)I" } : Jvm.MethodName)) ∈ UW := uw_in 886 (by decide +kernel) (by decide +kernel)
theorem q_851 : (Jvm.Cond.code ({ cls := "NeverBothDoorsModel", name := "way", desc := "(II)I" } : Jvm.MethodName) prog_6_method_33_code (3 : Nat) (Option.some Jvm.ClassFile.FieldType.int)) ∈ UW := uw_in 887 (by decide +kernel) (by decide +kernel)
theorem q_852 : (Jvm.Cond.methodLink "NeverBothDoorsModel" (170 : Nat) ({ cls := "NeverBothDoorsModel", name := "isPlace", desc := "(I)Z" } : Jvm.MethodName)) ∈ UW := uw_in 888 (by decide +kernel) (by decide +kernel)
theorem q_853 : (Jvm.Cond.static ({ cls := "NeverBothDoorsModel", name := "isPlace", desc := "(I)Z" } : Jvm.MethodName)) ∈ UW := uw_in 889 (by decide +kernel) (by decide +kernel)
theorem q_854 : (Jvm.Cond.code ({ cls := "NeverBothDoorsModel", name := "isPlace", desc := "(I)Z" } : Jvm.MethodName) prog_6_method_6_code (1 : Nat) (Option.some Jvm.ClassFile.FieldType.boolean)) ∈ UW := uw_in 890 (by decide +kernel) (by decide +kernel)
theorem q_855 : (Jvm.Cond.methodLink "NeverBothDoorsModel" (173 : Nat) ({ cls := "NeverBothDoorsModel", name := "walk", desc := "(I)V" } : Jvm.MethodName)) ∈ UW := uw_in 891 (by decide +kernel) (by decide +kernel)
theorem q_857 : (Jvm.Cond.instanceMethod ({ cls := "NeverBothDoorsModel", name := "walk", desc := "(I)V" } : Jvm.MethodName)) ∈ UW := uw_in 893 (by decide +kernel) (by decide +kernel)
theorem q_858 : (Jvm.Cond.code ({ cls := "NeverBothDoorsModel", name := "walk", desc := "(I)V" } : Jvm.MethodName) prog_6_method_32_code (4 : Nat) (Option.none : Option Jvm.ClassFile.FieldType)) ∈ UW := uw_in 894 (by decide +kernel) (by decide +kernel)
theorem q_859 : (Jvm.Cond.methodLink "NeverBothDoorsLaw" (71 : Nat) ({ cls := "NeverBothDoorsModel", name := "soonest", desc := "(I)I" } : Jvm.MethodName)) ∈ UW := uw_in 895 (by decide +kernel) (by decide +kernel)
theorem q_860 : (Jvm.Cond.instanceMethod ({ cls := "NeverBothDoorsModel", name := "soonest", desc := "(I)I" } : Jvm.MethodName)) ∈ UW := uw_in 896 (by decide +kernel) (by decide +kernel)
theorem q_861 : (Jvm.Cond.selects "NeverBothDoorsModel" ({ cls := "NeverBothDoorsModel", name := "soonest", desc := "(I)I" } : Jvm.MethodName) ({ cls := "NeverBothDoorsModel", name := "soonest", desc := "(I)I" } : Jvm.MethodName)) ∈ UW := uw_in 897 (by decide +kernel) (by decide +kernel)
theorem q_862 : (Jvm.Cond.code ({ cls := "NeverBothDoorsModel", name := "soonest", desc := "(I)I" } : Jvm.MethodName) prog_6_method_34_code (4 : Nat) (Option.some Jvm.ClassFile.FieldType.int)) ∈ UW := uw_in 898 (by decide +kernel) (by decide +kernel)
theorem q_863 : (Jvm.Cond.methodLink "NeverBothDoorsLaw" (75 : Nat) ({ cls := "NeverBothDoorsModel", name := "farthest", desc := "(I)I" } : Jvm.MethodName)) ∈ UW := uw_in 899 (by decide +kernel) (by decide +kernel)
theorem q_864 : (Jvm.Cond.instanceMethod ({ cls := "NeverBothDoorsModel", name := "farthest", desc := "(I)I" } : Jvm.MethodName)) ∈ UW := uw_in 900 (by decide +kernel) (by decide +kernel)
theorem q_865 : (Jvm.Cond.selects "NeverBothDoorsModel" ({ cls := "NeverBothDoorsModel", name := "farthest", desc := "(I)I" } : Jvm.MethodName) ({ cls := "NeverBothDoorsModel", name := "farthest", desc := "(I)I" } : Jvm.MethodName)) ∈ UW := uw_in 901 (by decide +kernel) (by decide +kernel)
theorem q_866 : (Jvm.Cond.code ({ cls := "NeverBothDoorsModel", name := "farthest", desc := "(I)I" } : Jvm.MethodName) prog_6_method_35_code (4 : Nat) (Option.some Jvm.ClassFile.FieldType.int)) ∈ UW := uw_in 902 (by decide +kernel) (by decide +kernel)
theorem q_867 : (Jvm.Cond.methodLink "NeverBothDoorsLaw" (79 : Nat) ({ cls := "NeverBothDoorsModel", name := "more", desc := "(I)I" } : Jvm.MethodName)) ∈ UW := uw_in 903 (by decide +kernel) (by decide +kernel)
theorem q_868 : (Jvm.Cond.instanceMethod ({ cls := "NeverBothDoorsModel", name := "more", desc := "(I)I" } : Jvm.MethodName)) ∈ UW := uw_in 904 (by decide +kernel) (by decide +kernel)
theorem q_869 : (Jvm.Cond.selects "NeverBothDoorsModel" ({ cls := "NeverBothDoorsModel", name := "more", desc := "(I)I" } : Jvm.MethodName) ({ cls := "NeverBothDoorsModel", name := "more", desc := "(I)I" } : Jvm.MethodName)) ∈ UW := uw_in 905 (by decide +kernel) (by decide +kernel)
theorem q_870 : (Jvm.Cond.code ({ cls := "NeverBothDoorsModel", name := "more", desc := "(I)I" } : Jvm.MethodName) prog_6_method_36_code (8 : Nat) (Option.some Jvm.ClassFile.FieldType.int)) ∈ UW := uw_in 906 (by decide +kernel) (by decide +kernel)
theorem q_871 : (Jvm.Cond.methodLink "NeverBothDoorsLaw" (83 : Nat) ({ cls := "NeverBothDoorsModel", name := "errands", desc := "(II)I" } : Jvm.MethodName)) ∈ UW := uw_in 907 (by decide +kernel) (by decide +kernel)
theorem q_872 : (Jvm.Cond.instanceMethod ({ cls := "NeverBothDoorsModel", name := "errands", desc := "(II)I" } : Jvm.MethodName)) ∈ UW := uw_in 908 (by decide +kernel) (by decide +kernel)
theorem q_873 : (Jvm.Cond.selects "NeverBothDoorsModel" ({ cls := "NeverBothDoorsModel", name := "errands", desc := "(II)I" } : Jvm.MethodName) ({ cls := "NeverBothDoorsModel", name := "errands", desc := "(II)I" } : Jvm.MethodName)) ∈ UW := uw_in 909 (by decide +kernel) (by decide +kernel)
theorem q_874 : (Jvm.Cond.code ({ cls := "NeverBothDoorsModel", name := "errands", desc := "(II)I" } : Jvm.MethodName) prog_6_method_37_code (9 : Nat) (Option.some Jvm.ClassFile.FieldType.int)) ∈ UW := uw_in 910 (by decide +kernel) (by decide +kernel)
theorem q_875 : (Jvm.Cond.methodLink "NeverBothDoorsModel" (177 : Nat) ({ cls := "NeverBothDoorsModel", name := "has", desc := "(II)Z" } : Jvm.MethodName)) ∈ UW := uw_in 911 (by decide +kernel) (by decide +kernel)
theorem q_876 : (Jvm.Cond.static ({ cls := "NeverBothDoorsModel", name := "has", desc := "(II)Z" } : Jvm.MethodName)) ∈ UW := uw_in 912 (by decide +kernel) (by decide +kernel)
theorem q_877 : (Jvm.Cond.code ({ cls := "NeverBothDoorsModel", name := "has", desc := "(II)Z" } : Jvm.MethodName) prog_6_method_4_code (2 : Nat) (Option.some Jvm.ClassFile.FieldType.boolean)) ∈ UW := uw_in 913 (by decide +kernel) (by decide +kernel)
theorem q_878 : (Jvm.Cond.methodLink "NeverBothDoorsLaw" (87 : Nat) ({ cls := "NeverBothDoorsModel", name := "fitted", desc := "()I" } : Jvm.MethodName)) ∈ UW := uw_in 914 (by decide +kernel) (by decide +kernel)
theorem q_879 : (Jvm.Cond.instanceMethod ({ cls := "NeverBothDoorsModel", name := "fitted", desc := "()I" } : Jvm.MethodName)) ∈ UW := uw_in 915 (by decide +kernel) (by decide +kernel)
theorem q_880 : (Jvm.Cond.selects "NeverBothDoorsModel" ({ cls := "NeverBothDoorsModel", name := "fitted", desc := "()I" } : Jvm.MethodName) ({ cls := "NeverBothDoorsModel", name := "fitted", desc := "()I" } : Jvm.MethodName)) ∈ UW := uw_in 916 (by decide +kernel) (by decide +kernel)
theorem q_881 : (Jvm.Cond.code ({ cls := "NeverBothDoorsModel", name := "fitted", desc := "()I" } : Jvm.MethodName) prog_6_method_39_code (1 : Nat) (Option.some Jvm.ClassFile.FieldType.int)) ∈ UW := uw_in 917 (by decide +kernel) (by decide +kernel)
theorem q_882 : (Jvm.Cond.methodLink "NeverBothDoorsModel" (180 : Nat) ({ cls := "NeverBothDoorsModel", name := "bare", desc := "()I" } : Jvm.MethodName)) ∈ UW := uw_in 918 (by decide +kernel) (by decide +kernel)
theorem q_883 : (Jvm.Cond.instanceMethod ({ cls := "NeverBothDoorsModel", name := "bare", desc := "()I" } : Jvm.MethodName)) ∈ UW := uw_in 919 (by decide +kernel) (by decide +kernel)
theorem q_884 : (Jvm.Cond.selects "NeverBothDoorsModel" ({ cls := "NeverBothDoorsModel", name := "bare", desc := "()I" } : Jvm.MethodName) ({ cls := "NeverBothDoorsModel", name := "bare", desc := "()I" } : Jvm.MethodName)) ∈ UW := uw_in 920 (by decide +kernel) (by decide +kernel)
theorem q_885 : (Jvm.Cond.code ({ cls := "NeverBothDoorsModel", name := "bare", desc := "()I" } : Jvm.MethodName) prog_6_method_40_code (4 : Nat) (Option.some Jvm.ClassFile.FieldType.int)) ∈ UW := uw_in 921 (by decide +kernel) (by decide +kernel)
theorem q_886 : (Jvm.Cond.methodLink "NeverBothDoorsModel" (184 : Nat) ({ cls := "java/lang/Integer", name := "bitCount", desc := "(I)I" } : Jvm.MethodName)) ∈ UW := uw_in 922 (by decide +kernel) (by decide +kernel)
theorem q_887 : (Jvm.Cond.methodLink "NeverBothDoorsModel" (189 : Nat) ({ cls := "NeverBothDoorsModel", name := "canHave", desc := "(I)Z" } : Jvm.MethodName)) ∈ UW := uw_in 923 (by decide +kernel) (by decide +kernel)
theorem q_889 : (Jvm.Cond.instanceMethod ({ cls := "NeverBothDoorsModel", name := "canHave", desc := "(I)Z" } : Jvm.MethodName)) ∈ UW := uw_in 925 (by decide +kernel) (by decide +kernel)
theorem q_890 : (Jvm.Cond.code ({ cls := "NeverBothDoorsModel", name := "canHave", desc := "(I)Z" } : Jvm.MethodName) prog_6_method_38_code (5 : Nat) (Option.some Jvm.ClassFile.FieldType.boolean)) ∈ UW := uw_in 926 (by decide +kernel) (by decide +kernel)
theorem q_891 : (Jvm.Cond.methodLink "NeverBothDoorsLaw" (91 : Nat) ({ cls := "NeverBothDoorsModel", name := "bare", desc := "()I" } : Jvm.MethodName)) ∈ UW := uw_in 927 (by decide +kernel) (by decide +kernel)
theorem q_892 : (Jvm.Cond.methodLink "NeverBothDoorsLaw" (95 : Nat) ({ cls := "NeverBothDoorsModel", name := "row", desc := "(I)I" } : Jvm.MethodName)) ∈ UW := uw_in 928 (by decide +kernel) (by decide +kernel)
theorem q_893 : (Jvm.Cond.instanceMethod ({ cls := "NeverBothDoorsModel", name := "row", desc := "(I)I" } : Jvm.MethodName)) ∈ UW := uw_in 929 (by decide +kernel) (by decide +kernel)
theorem q_894 : (Jvm.Cond.selects "NeverBothDoorsModel" ({ cls := "NeverBothDoorsModel", name := "row", desc := "(I)I" } : Jvm.MethodName) ({ cls := "NeverBothDoorsModel", name := "row", desc := "(I)I" } : Jvm.MethodName)) ∈ UW := uw_in 930 (by decide +kernel) (by decide +kernel)
theorem q_895 : (Jvm.Cond.code ({ cls := "NeverBothDoorsModel", name := "row", desc := "(I)I" } : Jvm.MethodName) prog_6_method_41_code (2 : Nat) (Option.some Jvm.ClassFile.FieldType.int)) ∈ UW := uw_in 931 (by decide +kernel) (by decide +kernel)
theorem q_896 : (Jvm.Cond.methodLink "NeverBothDoorsLaw" (99 : Nat) ({ cls := "NeverBothDoorsModel", name := "gauges", desc := "(II)I" } : Jvm.MethodName)) ∈ UW := uw_in 932 (by decide +kernel) (by decide +kernel)
theorem q_897 : (Jvm.Cond.instanceMethod ({ cls := "NeverBothDoorsModel", name := "gauges", desc := "(II)I" } : Jvm.MethodName)) ∈ UW := uw_in 933 (by decide +kernel) (by decide +kernel)
theorem q_898 : (Jvm.Cond.selects "NeverBothDoorsModel" ({ cls := "NeverBothDoorsModel", name := "gauges", desc := "(II)I" } : Jvm.MethodName) ({ cls := "NeverBothDoorsModel", name := "gauges", desc := "(II)I" } : Jvm.MethodName)) ∈ UW := uw_in 934 (by decide +kernel) (by decide +kernel)
theorem q_899 : (Jvm.Cond.code ({ cls := "NeverBothDoorsModel", name := "gauges", desc := "(II)I" } : Jvm.MethodName) prog_6_method_43_code (9 : Nat) (Option.some Jvm.ClassFile.FieldType.int)) ∈ UW := uw_in 935 (by decide +kernel) (by decide +kernel)
theorem q_900 : (Jvm.Cond.methodLink "NeverBothDoorsModel" (195 : Nat) ({ cls := "NeverBothDoorsModel", name := "isSo", desc := "(I)Z" } : Jvm.MethodName)) ∈ UW := uw_in 936 (by decide +kernel) (by decide +kernel)
theorem q_902 : (Jvm.Cond.instanceMethod ({ cls := "NeverBothDoorsModel", name := "isSo", desc := "(I)Z" } : Jvm.MethodName)) ∈ UW := uw_in 938 (by decide +kernel) (by decide +kernel)
theorem q_903 : (Jvm.Cond.code ({ cls := "NeverBothDoorsModel", name := "isSo", desc := "(I)Z" } : Jvm.MethodName) prog_6_method_42_code (4 : Nat) (Option.some Jvm.ClassFile.FieldType.boolean)) ∈ UW := uw_in 939 (by decide +kernel) (by decide +kernel)
theorem q_904 : (Jvm.Cond.methodLink "NeverBothDoorsLaw" (103 : Nat) ({ cls := "NeverBothDoorsModel", name := "judge", desc := "()I" } : Jvm.MethodName)) ∈ UW := uw_in 940 (by decide +kernel) (by decide +kernel)
theorem q_905 : (Jvm.Cond.instanceMethod ({ cls := "NeverBothDoorsModel", name := "judge", desc := "()I" } : Jvm.MethodName)) ∈ UW := uw_in 941 (by decide +kernel) (by decide +kernel)
theorem q_906 : (Jvm.Cond.selects "NeverBothDoorsModel" ({ cls := "NeverBothDoorsModel", name := "judge", desc := "()I" } : Jvm.MethodName) ({ cls := "NeverBothDoorsModel", name := "judge", desc := "()I" } : Jvm.MethodName)) ∈ UW := uw_in 942 (by decide +kernel) (by decide +kernel)
theorem q_907 : (Jvm.Cond.code ({ cls := "NeverBothDoorsModel", name := "judge", desc := "()I" } : Jvm.MethodName) prog_6_method_45_code (2 : Nat) (Option.some Jvm.ClassFile.FieldType.int)) ∈ UW := uw_in 943 (by decide +kernel) (by decide +kernel)
theorem q_908 : (Jvm.Cond.methodLink "NeverBothDoorsModel" (198 : Nat) ({ cls := "NeverBothDoorsModel", name := "judged", desc := "()I" } : Jvm.MethodName)) ∈ UW := uw_in 944 (by decide +kernel) (by decide +kernel)
theorem q_910 : (Jvm.Cond.instanceMethod ({ cls := "NeverBothDoorsModel", name := "judged", desc := "()I" } : Jvm.MethodName)) ∈ UW := uw_in 946 (by decide +kernel) (by decide +kernel)
theorem q_911 : (Jvm.Cond.code ({ cls := "NeverBothDoorsModel", name := "judged", desc := "()I" } : Jvm.MethodName) prog_6_method_44_code (2 : Nat) (Option.some Jvm.ClassFile.FieldType.int)) ∈ UW := uw_in 947 (by decide +kernel) (by decide +kernel)
theorem q_912 : (Jvm.Cond.methodLink "NeverBothDoorsLaw" (107 : Nat) ({ cls := "NeverBothDoorsModel", name := "ends", desc := "()I" } : Jvm.MethodName)) ∈ UW := uw_in 948 (by decide +kernel) (by decide +kernel)
theorem q_913 : (Jvm.Cond.instanceMethod ({ cls := "NeverBothDoorsModel", name := "ends", desc := "()I" } : Jvm.MethodName)) ∈ UW := uw_in 949 (by decide +kernel) (by decide +kernel)
theorem q_914 : (Jvm.Cond.selects "NeverBothDoorsModel" ({ cls := "NeverBothDoorsModel", name := "ends", desc := "()I" } : Jvm.MethodName) ({ cls := "NeverBothDoorsModel", name := "ends", desc := "()I" } : Jvm.MethodName)) ∈ UW := uw_in 950 (by decide +kernel) (by decide +kernel)
theorem q_915 : (Jvm.Cond.code ({ cls := "NeverBothDoorsModel", name := "ends", desc := "()I" } : Jvm.MethodName) prog_6_method_46_code (1 : Nat) (Option.some Jvm.ClassFile.FieldType.int)) ∈ UW := uw_in 951 (by decide +kernel) (by decide +kernel)
theorem q_916 : (Jvm.Cond.methodLink "NeverBothDoorsLaw" (111 : Nat) ({ cls := "NeverBothDoorsModel", name := "clear", desc := "()I" } : Jvm.MethodName)) ∈ UW := uw_in 952 (by decide +kernel) (by decide +kernel)
theorem q_917 : (Jvm.Cond.instanceMethod ({ cls := "NeverBothDoorsModel", name := "clear", desc := "()I" } : Jvm.MethodName)) ∈ UW := uw_in 953 (by decide +kernel) (by decide +kernel)
theorem q_918 : (Jvm.Cond.selects "NeverBothDoorsModel" ({ cls := "NeverBothDoorsModel", name := "clear", desc := "()I" } : Jvm.MethodName) ({ cls := "NeverBothDoorsModel", name := "clear", desc := "()I" } : Jvm.MethodName)) ∈ UW := uw_in 954 (by decide +kernel) (by decide +kernel)
theorem q_919 : (Jvm.Cond.code ({ cls := "NeverBothDoorsModel", name := "clear", desc := "()I" } : Jvm.MethodName) prog_6_method_47_code (2 : Nat) (Option.some Jvm.ClassFile.FieldType.int)) ∈ UW := uw_in 955 (by decide +kernel) (by decide +kernel)
theorem q_920 : (Jvm.Cond.methodLink "NeverBothDoorsLaw" (115 : Nat) ({ cls := "NeverBothDoorsModel", name := "seeds", desc := "(II)I" } : Jvm.MethodName)) ∈ UW := uw_in 956 (by decide +kernel) (by decide +kernel)
theorem q_921 : (Jvm.Cond.instanceMethod ({ cls := "NeverBothDoorsModel", name := "seeds", desc := "(II)I" } : Jvm.MethodName)) ∈ UW := uw_in 957 (by decide +kernel) (by decide +kernel)
theorem q_922 : (Jvm.Cond.selects "NeverBothDoorsModel" ({ cls := "NeverBothDoorsModel", name := "seeds", desc := "(II)I" } : Jvm.MethodName) ({ cls := "NeverBothDoorsModel", name := "seeds", desc := "(II)I" } : Jvm.MethodName)) ∈ UW := uw_in 958 (by decide +kernel) (by decide +kernel)
theorem q_923 : (Jvm.Cond.code ({ cls := "NeverBothDoorsModel", name := "seeds", desc := "(II)I" } : Jvm.MethodName) prog_6_method_48_code (8 : Nat) (Option.some Jvm.ClassFile.FieldType.int)) ∈ UW := uw_in 959 (by decide +kernel) (by decide +kernel)
theorem q_924 : (Jvm.Cond.constant "NeverBothDoorsModel" (201 : Nat) (1664525 : Int32)) ∈ UW := uw_in 960 (by decide +kernel) (by decide +kernel)
theorem q_925 : (Jvm.Cond.constant "NeverBothDoorsModel" (202 : Nat) (1013904223 : Int32)) ∈ UW := uw_in 961 (by decide +kernel) (by decide +kernel)
theorem q_926 : (Jvm.Cond.constant "NeverBothDoorsModel" (203 : Nat) (2147483647 : Int32)) ∈ UW := uw_in 962 (by decide +kernel) (by decide +kernel)
theorem q_927 : (Jvm.Cond.methodLink "NeverBothDoorsLaw" (119 : Nat) ({ cls := "NeverBothDoorsModel", name := "image", desc := "()I" } : Jvm.MethodName)) ∈ UW := uw_in 963 (by decide +kernel) (by decide +kernel)
theorem q_928 : (Jvm.Cond.instanceMethod ({ cls := "NeverBothDoorsModel", name := "image", desc := "()I" } : Jvm.MethodName)) ∈ UW := uw_in 964 (by decide +kernel) (by decide +kernel)
theorem q_929 : (Jvm.Cond.selects "NeverBothDoorsModel" ({ cls := "NeverBothDoorsModel", name := "image", desc := "()I" } : Jvm.MethodName) ({ cls := "NeverBothDoorsModel", name := "image", desc := "()I" } : Jvm.MethodName)) ∈ UW := uw_in 965 (by decide +kernel) (by decide +kernel)
theorem q_930 : (Jvm.Cond.code ({ cls := "NeverBothDoorsModel", name := "image", desc := "()I" } : Jvm.MethodName) prog_6_method_51_code (1 : Nat) (Option.some Jvm.ClassFile.FieldType.int)) ∈ UW := uw_in 966 (by decide +kernel) (by decide +kernel)
theorem q_931 : (Jvm.Cond.methodLink "NeverBothDoorsLaw" (123 : Nat) ({ cls := "NeverBothDoorsModel", name := "on", desc := "()I" } : Jvm.MethodName)) ∈ UW := uw_in 967 (by decide +kernel) (by decide +kernel)
theorem q_932 : (Jvm.Cond.instanceMethod ({ cls := "NeverBothDoorsModel", name := "on", desc := "()I" } : Jvm.MethodName)) ∈ UW := uw_in 968 (by decide +kernel) (by decide +kernel)
theorem q_933 : (Jvm.Cond.selects "NeverBothDoorsModel" ({ cls := "NeverBothDoorsModel", name := "on", desc := "()I" } : Jvm.MethodName) ({ cls := "NeverBothDoorsModel", name := "on", desc := "()I" } : Jvm.MethodName)) ∈ UW := uw_in 969 (by decide +kernel) (by decide +kernel)
theorem q_934 : (Jvm.Cond.code ({ cls := "NeverBothDoorsModel", name := "on", desc := "()I" } : Jvm.MethodName) prog_6_method_52_code (1 : Nat) (Option.some Jvm.ClassFile.FieldType.int)) ∈ UW := uw_in 970 (by decide +kernel) (by decide +kernel)
theorem q_935 : (Jvm.Cond.methodLink "NeverBothDoorsLaw" (127 : Nat) ({ cls := "NeverBothDoorsModel", name := "count", desc := "(I)I" } : Jvm.MethodName)) ∈ UW := uw_in 971 (by decide +kernel) (by decide +kernel)
theorem q_936 : (Jvm.Cond.instanceMethod ({ cls := "NeverBothDoorsModel", name := "count", desc := "(I)I" } : Jvm.MethodName)) ∈ UW := uw_in 972 (by decide +kernel) (by decide +kernel)
theorem q_937 : (Jvm.Cond.selects "NeverBothDoorsModel" ({ cls := "NeverBothDoorsModel", name := "count", desc := "(I)I" } : Jvm.MethodName) ({ cls := "NeverBothDoorsModel", name := "count", desc := "(I)I" } : Jvm.MethodName)) ∈ UW := uw_in 973 (by decide +kernel) (by decide +kernel)
theorem q_938 : (Jvm.Cond.code ({ cls := "NeverBothDoorsModel", name := "count", desc := "(I)I" } : Jvm.MethodName) prog_6_method_53_code (4 : Nat) (Option.some Jvm.ClassFile.FieldType.int)) ∈ UW := uw_in 974 (by decide +kernel) (by decide +kernel)
theorem q_939 : (Jvm.Cond.fieldLink "java/lang/String" (9 : Nat) "java/lang/String" "value" "[B") ∈ UW := uw_in 975 (by decide +kernel) (by decide +kernel)
theorem q_940 : (Jvm.Cond.fieldLink "java/lang/String" (15 : Nat) "java/lang/String" "coder" "B") ∈ UW := uw_in 976 (by decide +kernel) (by decide +kernel)
end
section
/-! what the words say of a method -/
theorem mvX_air : MV yX_air cX_air 3 (some .int) 2 := ⟨q_389, q_390, q_1, q_391, ⟨by decide, by decide, by decide +kernel⟩, by decide⟩
theorem mvX_bare : MV yX_bare cX_bare 1 (some .int) 0 := ⟨q_499, q_500, q_1, q_501, ⟨by decide, by decide, by decide +kernel⟩, by decide⟩
theorem mvX_bestNewLock : MV yX_bestNewLock cX_bestNewLock 6 (some .int) 0 := ⟨q_451, (uw_in 6 (by decide +kernel) (by decide +kernel)), q_1, q_452, ⟨by decide, by decide, by decide +kernel⟩, by decide⟩
theorem msX_breathOfKind : MS yX_breathOfKind cX_breathOfKind 2 (some .int) 2 := ⟨q_329, q_1, q_330, ⟨by decide, by decide, by decide +kernel⟩, by decide⟩
theorem mvX_burrow : MV yX_burrow cX_burrow 2 (some .int) 0 := ⟨q_172, q_173, q_1, q_174, ⟨by decide, by decide, by decide +kernel⟩, by decide⟩
theorem mvX_clear : MV yX_clear cX_clear 2 (some .int) 0 := ⟨q_543, q_544, q_1, q_545, ⟨by decide, by decide, by decide +kernel⟩, by decide⟩
theorem mvX_comesToMind : MV yX_comesToMind cX_comesToMind 5 (some .boolean) 1 := ⟨q_271, (uw_in 3 (by decide +kernel) (by decide +kernel)), q_1, q_272, ⟨by decide, by decide, by decide +kernel⟩, by decide⟩
theorem mvX_count : MV yX_count cX_count 2 (some .int) 1 := ⟨q_572, q_573, q_1, q_574, ⟨by decide, by decide, by decide +kernel⟩, by decide⟩
theorem msX_drawn : MS yX_drawn cX_drawn 2 (some .int) 2 := ⟨q_560, q_1, q_561, ⟨by decide, by decide, by decide +kernel⟩, by decide⟩
theorem mvX_ends : MV yX_ends cX_ends 1 (some .int) 0 := ⟨q_539, q_540, q_1, q_541, ⟨by decide, by decide, by decide +kernel⟩, by decide⟩
theorem mvX_errands : MV yX_errands cX_errands 3 (some .int) 2 := ⟨q_463, q_464, q_1, q_465, ⟨by decide, by decide, by decide +kernel⟩, by decide⟩
theorem mvX_farthest : MV yX_farthest cX_farthest 3 (some .int) 1 := ⟨q_438, q_439, q_1, q_440, ⟨by decide, by decide, by decide +kernel⟩, by decide⟩
theorem mvX_firstToLeak : MV yX_firstToLeak cX_firstToLeak 5 (some .int) 1 := ⟨q_528, (uw_in 13 (by decide +kernel) (by decide +kernel)), q_1, q_529, ⟨by decide, by decide, by decide +kernel⟩, by decide⟩
theorem mvX_fitted : MV yX_fitted cX_fitted 1 (some .int) 0 := ⟨q_476, q_477, q_1, q_478, ⟨by decide, by decide, by decide +kernel⟩, by decide⟩
theorem mvX_gasps : MV yX_gasps cX_gasps 2 (some .int) 1 := ⟨q_397, q_398, q_1, q_399, ⟨by decide, by decide, by decide +kernel⟩, by decide⟩
theorem mvX_gauges : MV yX_gauges cX_gauges 3 (some .int) 2 := ⟨q_507, q_508, q_1, q_509, ⟨by decide, by decide, by decide +kernel⟩, by decide⟩
theorem mvX_image : MV yX_image cX_image 1 (some .int) 0 := ⟨q_564, q_565, q_1, q_566, ⟨by decide, by decide, by decide +kernel⟩, by decide⟩
theorem mvX_isAsTold : MV yX_isAsTold cX_isAsTold 4 (some .boolean) 3 := ⟨q_520, (uw_in 11 (by decide +kernel) (by decide +kernel)), q_1, q_521, ⟨by decide, by decide, by decide +kernel⟩, by decide⟩
theorem msX_isPlace : MS yX_isPlace cX_isPlace 1 (some .boolean) 1 := ⟨q_295, q_1, q_296, ⟨by decide, by decide, by decide +kernel⟩, by decide⟩
theorem msX_isRoom : MS yX_isRoom cX_isRoom 1 (some .boolean) 1 := ⟨q_284, q_1, q_285, ⟨by decide, by decide, by decide +kernel⟩, by decide⟩
theorem mvX_judge : MV yX_judge cX_judge 2 (some .int) 0 := ⟨q_531, q_532, q_1, q_533, ⟨by decide, by decide, by decide +kernel⟩, by decide⟩
theorem msX_kindOf : MS yX_kindOf cX_kindOf 1 (some .int) 1 := ⟨q_260, q_1, q_261, ⟨by decide, by decide, by decide +kernel⟩, by decide⟩
theorem mvX_leak : MV yX_leak cX_leak 4 (some .int) 2 := ⟨q_385, q_386, q_1, q_387, ⟨by decide, by decide, by decide +kernel⟩, by decide⟩
theorem mvX_letter : MV yX_letter cX_letter 2 (some .int) 1 := ⟨q_160, q_161, q_1, q_162, ⟨by decide, by decide, by decide +kernel⟩, by decide⟩
theorem mvX_lock : MV yX_lock cX_lock 3 (some .int) 2 := ⟨q_332, q_333, q_1, q_334, ⟨by decide, by decide, by decide +kernel⟩, by decide⟩
theorem mvX_longestWith : MV yX_longestWith cX_longestWith 2 (some .int) 1 := ⟨q_455, (uw_in 7 (by decide +kernel) (by decide +kernel)), q_1, q_456, ⟨by decide, by decide, by decide +kernel⟩, by decide⟩
theorem mvX_minutes : MV yX_minutes cX_minutes 2 (some .int) 1 := ⟨q_380, q_381, q_1, q_382, ⟨by decide, by decide, by decide +kernel⟩, by decide⟩
theorem mvX_more : MV yX_more cX_more 2 (some .int) 1 := ⟨q_446, q_447, q_1, q_448, ⟨by decide, by decide, by decide +kernel⟩, by decide⟩
theorem msX_nextSeed : MS yX_nextSeed cX_nextSeed 1 (some .int) 1 := ⟨q_555, q_1, q_556, ⟨by decide, by decide, by decide +kernel⟩, by decide⟩
theorem mvX_on : MV yX_on cX_on 1 (some .int) 0 := ⟨q_568, q_569, q_1, q_570, ⟨by decide, by decide, by decide +kernel⟩, by decide⟩
theorem mvX_open : MV yX_open cX_open 4 (some .int) 2 := ⟨q_353, q_354, q_1, q_355, ⟨by decide, by decide, by decide +kernel⟩, by decide⟩
theorem msX_orNone : MS yX_orNone cX_orNone 1 (some .int) 1 := ⟨q_426, q_1, q_427, ⟨by decide, by decide, by decide +kernel⟩, by decide⟩
theorem mvX_out : MV yX_out cX_out 2 (some .int) 0 := ⟨q_401, q_402, q_1, q_403, ⟨by decide, by decide, by decide +kernel⟩, by decide⟩
theorem mvX_passBySeeds : MV yX_passBySeeds cX_passBySeeds 8 (some .int) 2 := ⟨q_552, (uw_in 15 (by decide +kernel) (by decide +kernel)), q_1, q_553, ⟨by decide, by decide, by decide +kernel⟩, by decide⟩
theorem mvX_passToldInMind : MV yX_passToldInMind cX_passToldInMind 4 (some .int) 0 := ⟨q_536, (uw_in 14 (by decide +kernel) (by decide +kernel)), q_1, q_537, ⟨by decide, by decide, by decide +kernel⟩, by decide⟩
theorem mvX_passes : MV yX_passes cX_passes 3 (some .int) 2 := ⟨q_357, q_358, q_1, q_359, ⟨by decide, by decide, by decide +kernel⟩, by decide⟩
theorem mvX_person : MV yX_person cX_person 3 (some .int) 2 := ⟨q_340, q_341, q_1, q_342, ⟨by decide, by decide, by decide +kernel⟩, by decide⟩
theorem mvX_readBurrow : MV yX_readBurrow cX_readBurrow 4 (some .int) 0 := ⟨q_177, (uw_in 1 (by decide +kernel) (by decide +kernel)), q_1, q_178, ⟨by decide, by decide, by decide +kernel⟩, by decide⟩
theorem mvX_refuse : MV yX_refuse cX_refuse 2 (some .int) 1 := ⟨q_165, (uw_in 0 (by decide +kernel) (by decide +kernel)), q_1, q_166, ⟨by decide, by decide, by decide +kernel⟩, by decide⟩
theorem mvX_room : MV yX_room cX_room 3 (some .int) 2 := ⟨q_315, q_316, q_1, q_317, ⟨by decide, by decide, by decide +kernel⟩, by decide⟩
theorem mvX_roomsUnlikeTold : MV yX_roomsUnlikeTold cX_roomsUnlikeTold 4 (some .int) 1 := ⟨q_516, (uw_in 10 (by decide +kernel) (by decide +kernel)), q_1, q_517, ⟨by decide, by decide, by decide +kernel⟩, by decide⟩
theorem mvX_row : MV yX_row cX_row 2 (some .int) 1 := ⟨q_503, q_504, q_1, q_505, ⟨by decide, by decide, by decide +kernel⟩, by decide⟩
theorem mvX_seeds : MV yX_seeds cX_seeds 3 (some .int) 2 := ⟨q_547, q_548, q_1, q_549, ⟨by decide, by decide, by decide +kernel⟩, by decide⟩
theorem mvX_soonest : MV yX_soonest cX_soonest 2 (some .int) 1 := ⟨q_430, q_431, q_1, q_432, ⟨by decide, by decide, by decide +kernel⟩, by decide⟩
theorem msX_sum : MS yX_sum cX_sum 6 (some .int) 1 := ⟨q_576, q_1, q_577, ⟨by decide, by decide, by decide +kernel⟩, by decide⟩
theorem mvX_way : MV yX_way cX_way 3 (some .int) 2 := ⟨q_406, q_407, q_1, q_408, ⟨by decide, by decide, by decide +kernel⟩, by decide⟩
theorem mvX_waysToLeak : MV yX_waysToLeak cX_waysToLeak 6 (some .int) 1 := ⟨q_512, (uw_in 9 (by decide +kernel) (by decide +kernel)), q_1, q_513, ⟨by decide, by decide, by decide +kernel⟩, by decide⟩
theorem mvX_wouldMakeAllSo : MV yX_wouldMakeAllSo cX_wouldMakeAllSo 6 (some .boolean) 4 := ⟨q_524, (uw_in 12 (by decide +kernel) (by decide +kernel)), q_1, q_525, ⟨by decide, by decide, by decide +kernel⟩, by decide⟩
theorem mvB_airBehind : MV yB_airBehind cB_airBehind 4 (some .int) 3 := ⟨q_393, q_394, q_2, q_395, ⟨by decide, by decide, by decide +kernel⟩, by decide⟩
theorem mvB_become : MV yB_become cB_become 2 none 1 := ⟨q_263, q_264, q_2, q_265, ⟨by decide, by decide, by decide +kernel⟩, by decide⟩
theorem mvB_breathIn : MV yB_breathIn cB_breathIn 5 (some .int) 1 := ⟨q_324, q_325, q_2, q_326, ⟨by decide, by decide, by decide +kernel⟩, by decide⟩
theorem mvB_breathOf : MV yB_breathOf cB_breathOf 2 (some .int) 1 := ⟨q_348, q_349, q_2, q_350, ⟨by decide, by decide, by decide +kernel⟩, by decide⟩
theorem mvB_canPass : MV yB_canPass cB_canPass 3 (some .boolean) 2 := ⟨q_361, q_362, q_2, q_363, ⟨by decide, by decide, by decide +kernel⟩, by decide⟩
theorem mvB_goThrough : MV yB_goThrough cB_goThrough 4 none 2 := ⟨q_366, q_367, q_2, q_368, ⟨by decide, by decide, by decide +kernel⟩, by decide⟩
theorem mvB_hasLock : MV yB_hasLock cB_hasLock 2 (some .boolean) 1 := ⟨q_336, q_337, q_2, q_338, ⟨by decide, by decide, by decide +kernel⟩, by decide⟩
theorem mvB_hasPerson : MV yB_hasPerson cB_hasPerson 2 (some .boolean) 1 := ⟨q_344, q_345, q_2, q_346, ⟨by decide, by decide, by decide +kernel⟩, by decide⟩
theorem mvB_leastBare : MV yB_leastBare cB_leastBare 4 (some .int) 0 := ⟨q_480, q_481, q_2, q_482, ⟨by decide, by decide, by decide +kernel⟩, by decide⟩
theorem mvB_liveMinute : MV yB_liveMinute cB_liveMinute 4 (some .int) 0 := ⟨q_375, q_376, q_2, q_377, ⟨by decide, by decide, by decide +kernel⟩, by decide⟩
theorem mvB_liveMinutes : MV yB_liveMinutes cB_liveMinutes 4 (some .int) 1 := ⟨q_371, q_372, q_2, q_373, ⟨by decide, by decide, by decide +kernel⟩, by decide⟩
theorem mvB_peopleAt : MV yB_peopleAt cB_peopleAt 4 (some .int) 1 := ⟨q_320, q_321, q_2, q_322, ⟨by decide, by decide, by decide +kernel⟩, by decide⟩
theorem mvB_peopleOfFit : MV yB_peopleOfFit cB_peopleOfFit 5 (some .int) 2 := ⟨q_494, q_495, q_2, q_496, ⟨by decide, by decide, by decide +kernel⟩, by decide⟩
theorem mvB_suitsAreEnoughBut : MV yB_suitsAreEnoughBut cB_suitsAreEnoughBut 5 (some .boolean) 1 := ⟨q_490, q_491, q_2, q_492, ⟨by decide, by decide, by decide +kernel⟩, by decide⟩
theorem mvB_tellAir : MV yB_tellAir cB_tellAir 3 (some .boolean) 2 := ⟨q_280, q_281, q_2, q_282, ⟨by decide, by decide, by decide +kernel⟩, by decide⟩
theorem mvB_tellLeak : MV yB_tellLeak cB_tellLeak 3 (some .boolean) 2 := ⟨q_287, q_288, q_2, q_289, ⟨by decide, by decide, by decide +kernel⟩, by decide⟩
theorem mvB_tellLock : MV yB_tellLock cB_tellLock 5 (some .boolean) 4 := ⟨q_291, q_292, q_2, q_293, ⟨by decide, by decide, by decide +kernel⟩, by decide⟩
theorem mvB_tellPerson : MV yB_tellPerson cB_tellPerson 5 (some .boolean) 4 := ⟨q_305, q_306, q_2, q_307, ⟨by decide, by decide, by decide +kernel⟩, by decide⟩
theorem mvB_tellSuits : MV yB_tellSuits cB_tellSuits 3 (some .boolean) 2 := ⟨q_309, q_310, q_2, q_311, ⟨by decide, by decide, by decide +kernel⟩, by decide⟩
theorem mvT_add : MV yT_add cT_add 2 none 1 := ⟨q_168, q_169, q_4, q_170, ⟨by decide, by decide, by decide +kernel⟩, by decide⟩
theorem mvT_behindStatement : MV yT_behindStatement cT_behindStatement 6 (some .int) 1 := ⟨q_184, q_185, q_4, q_186, ⟨by decide, by decide, by decide +kernel⟩, by decide⟩
theorem mvT_digitAt : MV yT_digitAt cT_digitAt 3 (some .int) 1 := ⟨q_256, q_257, q_4, q_258, ⟨by decide, by decide, by decide +kernel⟩, by decide⟩
theorem mvT_isDue : MV yT_isDue cT_isDue 3 (some .boolean) 2 := ⟨q_253, (uw_in 2 (by decide +kernel) (by decide +kernel)), q_4, q_254, ⟨by decide, by decide, by decide +kernel⟩, by decide⟩
theorem mvT_misformedAt : MV yT_misformedAt cT_misformedAt 4 (some .int) 0 := ⟨q_180, q_181, q_4, q_182, ⟨by decide, by decide, by decide +kernel⟩, by decide⟩
theorem mvT_numberAt : MV yT_numberAt cT_numberAt 4 (some .int) 1 := ⟨q_276, q_277, q_4, q_278, ⟨by decide, by decide, by decide +kernel⟩, by decide⟩
theorem msT_shapeBehind : MS yT_shapeBehind cT_shapeBehind 1 (some (.object "java/lang/String")) 1 := ⟨q_192, q_4, q_193, ⟨by decide, by decide, by decide +kernel⟩, by decide⟩
theorem mvT_signAt : MV yT_signAt cT_signAt 2 (some .int) 1 := ⟨q_188, q_189, q_4, q_190, ⟨by decide, by decide, by decide +kernel⟩, by decide⟩
theorem mvW_errandsFrom : MV yW_errandsFrom cW_errandsFrom 6 (some .int) 2 := ⟨q_467, q_468, q_5, q_469, ⟨by decide, by decide, by decide +kernel⟩, by decide⟩
theorem mvW_farthestRoom : MV yW_farthestRoom cW_farthestRoom 5 (some .int) 0 := ⟨q_442, q_443, q_5, q_444, ⟨by decide, by decide, by decide +kernel⟩, by decide⟩
theorem mvW_goOnFrom : MV yW_goOnFrom cW_goOnFrom 8 none 3 := ⟨q_473, (uw_in 8 (by decide +kernel) (by decide +kernel)), q_5, q_474, ⟨by decide, by decide, by decide +kernel⟩, by decide⟩
theorem mvW_join : MV yW_join cW_join 4 none 3 := ⟨q_417, (uw_in 4 (by decide +kernel) (by decide +kernel)), q_5, q_418, ⟨by decide, by decide, by decide +kernel⟩, by decide⟩
theorem mvW_longestWith : MV yW_longestWith cW_longestWith 7 (some .int) 2 := ⟨q_458, q_459, q_5, q_460, ⟨by decide, by decide, by decide +kernel⟩, by decide⟩
theorem mvW_measure : MV yW_measure cW_measure 4 none 1 := ⟨q_411, q_412, q_5, q_413, ⟨by decide, by decide, by decide +kernel⟩, by decide⟩
theorem mvW_shortenBy : MV yW_shortenBy cW_shortenBy 4 none 1 := ⟨q_423, (uw_in 5 (by decide +kernel) (by decide +kernel)), q_5, q_424, ⟨by decide, by decide, by decide +kernel⟩, by decide⟩
theorem mvW_toAnyRoom : MV yW_toAnyRoom cW_toAnyRoom 4 (some .int) 1 := ⟨q_434, q_435, q_5, q_436, ⟨by decide, by decide, by decide +kernel⟩, by decide⟩
theorem mvM_again : MV yM_again cM_again 3 none 1 := ⟨q_771, (uw_in 23 (by decide +kernel) (by decide +kernel)), q_6, q_772, ⟨by decide, by decide, by decide +kernel⟩, by decide⟩
theorem mvM_air : MV yM_air cM_air 4 (some .int) 2 := ⟨q_837, q_838, q_6, q_839, ⟨by decide, by decide, by decide +kernel⟩, by decide⟩
theorem mvM_bare : MV yM_bare cM_bare 4 (some .int) 0 := ⟨q_883, q_884, q_6, q_885, ⟨by decide, by decide, by decide +kernel⟩, by decide⟩
theorem mvM_breath : MV yM_breath cM_breath 2 (some .int) 1 := ⟨q_790, (uw_in 26 (by decide +kernel) (by decide +kernel)), q_6, q_791, ⟨by decide, by decide, by decide +kernel⟩, by decide⟩
theorem mvM_breathed : MV yM_breathed cM_breathed 4 (some .int) 1 := ⟨q_786, (uw_in 25 (by decide +kernel) (by decide +kernel)), q_6, q_787, ⟨by decide, by decide, by decide +kernel⟩, by decide⟩
theorem mvM_burrow : MV yM_burrow cM_burrow 4 (some .int) 0 := ⟨q_681, q_682, q_6, q_683, ⟨by decide, by decide, by decide +kernel⟩, by decide⟩
theorem mvM_canHave : MV yM_canHave cM_canHave 5 (some .boolean) 1 := ⟨q_889, (uw_in 33 (by decide +kernel) (by decide +kernel)), q_6, q_890, ⟨by decide, by decide, by decide +kernel⟩, by decide⟩
theorem mvM_canPass : MV yM_canPass cM_canPass 3 (some .boolean) 2 := ⟨q_818, (uw_in 29 (by decide +kernel) (by decide +kernel)), q_6, q_819, ⟨by decide, by decide, by decide +kernel⟩, by decide⟩
theorem mvM_clear : MV yM_clear cM_clear 2 (some .int) 0 := ⟨q_917, q_918, q_6, q_919, ⟨by decide, by decide, by decide +kernel⟩, by decide⟩
theorem mvM_count : MV yM_count cM_count 4 (some .int) 1 := ⟨q_936, q_937, q_6, q_938, ⟨by decide, by decide, by decide +kernel⟩, by decide⟩
theorem mvM_ends : MV yM_ends cM_ends 1 (some .int) 0 := ⟨q_913, q_914, q_6, q_915, ⟨by decide, by decide, by decide +kernel⟩, by decide⟩
theorem mvM_errands : MV yM_errands cM_errands 9 (some .int) 2 := ⟨q_872, q_873, q_6, q_874, ⟨by decide, by decide, by decide +kernel⟩, by decide⟩
theorem mvM_farthest : MV yM_farthest cM_farthest 4 (some .int) 1 := ⟨q_864, q_865, q_6, q_866, ⟨by decide, by decide, by decide +kernel⟩, by decide⟩
theorem mvM_fitted : MV yM_fitted cM_fitted 1 (some .int) 0 := ⟨q_879, q_880, q_6, q_881, ⟨by decide, by decide, by decide +kernel⟩, by decide⟩
theorem mvM_gasps : MV yM_gasps cM_gasps 3 (some .int) 1 := ⟨q_841, q_842, q_6, q_843, ⟨by decide, by decide, by decide +kernel⟩, by decide⟩
theorem mvM_gauges : MV yM_gauges cM_gauges 9 (some .int) 2 := ⟨q_897, q_898, q_6, q_899, ⟨by decide, by decide, by decide +kernel⟩, by decide⟩
theorem mvM_goBy : MV yM_goBy cM_goBy 6 (some .int) 1 := ⟨q_826, (uw_in 31 (by decide +kernel) (by decide +kernel)), q_6, q_827, ⟨by decide, by decide, by decide +kernel⟩, by decide⟩
theorem msM_has : MS yM_has cM_has 2 (some .boolean) 2 := ⟨q_876, q_6, q_877, ⟨by decide, by decide, by decide +kernel⟩, by decide⟩
theorem mvM_image : MV yM_image cM_image 1 (some .int) 0 := ⟨q_928, q_929, q_6, q_930, ⟨by decide, by decide, by decide +kernel⟩, by decide⟩
theorem mvM_is : MV yM_is cM_is 2 (some .boolean) 1 := ⟨q_690, (uw_in 18 (by decide +kernel) (by decide +kernel)), q_6, q_691, ⟨by decide, by decide, by decide +kernel⟩, by decide⟩
theorem mvM_isDigit : MV yM_isDigit cM_isDigit 1 (some .boolean) 0 := ⟨q_698, (uw_in 20 (by decide +kernel) (by decide +kernel)), q_6, q_699, ⟨by decide, by decide, by decide +kernel⟩, by decide⟩
theorem mvM_isLock : MV yM_isLock cM_isLock 2 (some .boolean) 1 := ⟨q_798, (uw_in 27 (by decide +kernel) (by decide +kernel)), q_6, q_799, ⟨by decide, by decide, by decide +kernel⟩, by decide⟩
theorem mvM_isOne : MV yM_isOne cM_isOne 2 (some .boolean) 1 := ⟨q_806, (uw_in 28 (by decide +kernel) (by decide +kernel)), q_6, q_807, ⟨by decide, by decide, by decide +kernel⟩, by decide⟩
theorem msM_isPlace : MS yM_isPlace cM_isPlace 1 (some .boolean) 1 := ⟨q_853, q_6, q_854, ⟨by decide, by decide, by decide +kernel⟩, by decide⟩
theorem msM_isRoom : MS yM_isRoom cM_isRoom 1 (some .boolean) 1 := ⟨q_778, q_6, q_779, ⟨by decide, by decide, by decide +kernel⟩, by decide⟩
theorem mvM_isSo : MV yM_isSo cM_isSo 4 (some .boolean) 1 := ⟨q_902, (uw_in 34 (by decide +kernel) (by decide +kernel)), q_6, q_903, ⟨by decide, by decide, by decide +kernel⟩, by decide⟩
theorem mvM_judge : MV yM_judge cM_judge 2 (some .int) 0 := ⟨q_905, q_906, q_6, q_907, ⟨by decide, by decide, by decide +kernel⟩, by decide⟩
theorem mvM_judged : MV yM_judged cM_judged 2 (some .int) 0 := ⟨q_910, (uw_in 35 (by decide +kernel) (by decide +kernel)), q_6, q_911, ⟨by decide, by decide, by decide +kernel⟩, by decide⟩
theorem mvM_keep : MV yM_keep cM_keep 3 none 1 := ⟨q_767, (uw_in 22 (by decide +kernel) (by decide +kernel)), q_6, q_768, ⟨by decide, by decide, by decide +kernel⟩, by decide⟩
theorem mvM_leak : MV yM_leak cM_leak 4 (some .int) 2 := ⟨q_833, q_834, q_6, q_835, ⟨by decide, by decide, by decide +kernel⟩, by decide⟩
theorem mvM_letter : MV yM_letter cM_letter 2 (some .int) 1 := ⟨q_673, q_674, q_6, q_675, ⟨by decide, by decide, by decide +kernel⟩, by decide⟩
theorem mvM_lock : MV yM_lock cM_lock 3 (some .int) 2 := ⟨q_793, q_794, q_6, q_795, ⟨by decide, by decide, by decide +kernel⟩, by decide⟩
theorem mvM_minutes : MV yM_minutes cM_minutes 2 (some .int) 1 := ⟨q_829, q_830, q_6, q_831, ⟨by decide, by decide, by decide +kernel⟩, by decide⟩
theorem mvM_more : MV yM_more cM_more 8 (some .int) 1 := ⟨q_868, q_869, q_6, q_870, ⟨by decide, by decide, by decide +kernel⟩, by decide⟩
theorem mvM_newLock : MV yM_newLock cM_newLock 5 none 4 := ⟨q_702, (uw_in 21 (by decide +kernel) (by decide +kernel)), q_6, q_703, ⟨by decide, by decide, by decide +kernel⟩, by decide⟩
theorem mvM_no : MV yM_no cM_no 2 (some .int) 1 := ⟨q_678, (uw_in 16 (by decide +kernel) (by decide +kernel)), q_6, q_679, ⟨by decide, by decide, by decide +kernel⟩, by decide⟩
theorem mvM_number : MV yM_number cM_number 4 (some .boolean) 2 := ⟨q_694, (uw_in 19 (by decide +kernel) (by decide +kernel)), q_6, q_695, ⟨by decide, by decide, by decide +kernel⟩, by decide⟩
theorem mvM_on : MV yM_on cM_on 1 (some .int) 0 := ⟨q_932, q_933, q_6, q_934, ⟨by decide, by decide, by decide +kernel⟩, by decide⟩
theorem mvM_open : MV yM_open cM_open 4 (some .int) 2 := ⟨q_809, q_810, q_6, q_811, ⟨by decide, by decide, by decide +kernel⟩, by decide⟩
theorem mvM_out : MV yM_out cM_out 2 (some .int) 0 := ⟨q_845, q_846, q_6, q_847, ⟨by decide, by decide, by decide +kernel⟩, by decide⟩
theorem mvM_pass : MV yM_pass cM_pass 3 (some .int) 2 := ⟨q_822, (uw_in 30 (by decide +kernel) (by decide +kernel)), q_6, q_823, ⟨by decide, by decide, by decide +kernel⟩, by decide⟩
theorem mvM_passes : MV yM_passes cM_passes 3 (some .int) 2 := ⟨q_813, q_814, q_6, q_815, ⟨by decide, by decide, by decide +kernel⟩, by decide⟩
theorem mvM_person : MV yM_person cM_person 3 (some .int) 2 := ⟨q_801, q_802, q_6, q_803, ⟨by decide, by decide, by decide +kernel⟩, by decide⟩
theorem mvM_room : MV yM_room cM_room 3 (some .int) 2 := ⟨q_774, q_775, q_6, q_776, ⟨by decide, by decide, by decide +kernel⟩, by decide⟩
theorem mvM_row : MV yM_row cM_row 2 (some .int) 1 := ⟨q_893, q_894, q_6, q_895, ⟨by decide, by decide, by decide +kernel⟩, by decide⟩
theorem mvM_seeds : MV yM_seeds cM_seeds 8 (some .int) 2 := ⟨q_921, q_922, q_6, q_923, ⟨by decide, by decide, by decide +kernel⟩, by decide⟩
theorem mvM_soonest : MV yM_soonest cM_soonest 4 (some .int) 1 := ⟨q_860, q_861, q_6, q_862, ⟨by decide, by decide, by decide +kernel⟩, by decide⟩
theorem mvM_statement : MV yM_statement cM_statement 3 (some .int) 1 := ⟨q_686, (uw_in 17 (by decide +kernel) (by decide +kernel)), q_6, q_687, ⟨by decide, by decide, by decide +kernel⟩, by decide⟩
theorem mvM_there : MV yM_there cM_there 4 (some .int) 1 := ⟨q_782, (uw_in 24 (by decide +kernel) (by decide +kernel)), q_6, q_783, ⟨by decide, by decide, by decide +kernel⟩, by decide⟩
theorem mvM_walk : MV yM_walk cM_walk 4 none 1 := ⟨q_857, (uw_in 32 (by decide +kernel) (by decide +kernel)), q_6, q_858, ⟨by decide, by decide, by decide +kernel⟩, by decide⟩
theorem mvM_way : MV yM_way cM_way 3 (some .int) 2 := ⟨q_849, q_850, q_6, q_851, ⟨by decide, by decide, by decide +kernel⟩, by decide⟩
theorem msM_within : MS yM_within cM_within 3 (some .boolean) 3 := ⟨q_763, q_6, q_764, ⟨by decide, by decide, by decide +kernel⟩, by decide⟩
theorem msJC_highSurrogate : MS yJC_highSurrogate cJC_highSurrogate 1 (some .char) 1 := ⟨q_755, q_13, q_756, ⟨by decide, by decide, by decide +kernel⟩, by decide⟩
theorem msJC_isValidCodePoint : MS yJC_isValidCodePoint cJC_isValidCodePoint 2 (some .boolean) 1 := ⟨q_752, q_13, q_753, ⟨by decide, by decide, by decide +kernel⟩, by decide⟩
theorem msJC_lowSurrogate : MS yJC_lowSurrogate cJC_lowSurrogate 1 (some .char) 1 := ⟨q_759, q_13, q_760, ⟨by decide, by decide, by decide +kernel⟩, by decide⟩
theorem msJI_bitCount : MS yJI_bitCount cJI_bitCount 1 (some .int) 1 := ⟨q_484, q_14, q_485, ⟨by decide, by decide, by decide +kernel⟩, by decide⟩
theorem msJM_max : MS yJM_max cJM_max 2 (some .int) 2 := ⟨q_301, q_12, q_302, ⟨by decide, by decide, by decide +kernel⟩, by decide⟩
theorem msJM_min : MS yJM_min cJM_min 2 (some .int) 2 := ⟨q_298, q_12, q_299, ⟨by decide, by decide, by decide +kernel⟩, by decide⟩
theorem mvJS_charAt : MV yJS_charAt cJS_charAt 2 (some .char) 1 := ⟨q_214, q_215, q_7, q_216, ⟨by decide, by decide, by decide +kernel⟩, by decide⟩
theorem msJS_checkBoundsBeginEnd : MS yJS_checkBoundsBeginEnd cJS_checkBoundsBeginEnd 3 none 3 := ⟨q_740, q_7, q_741, ⟨by decide, by decide, by decide +kernel⟩, by decide⟩
theorem msJS_checkIndex : MS yJS_checkIndex cJS_checkIndex 2 none 2 := ⟨q_225, q_7, q_226, ⟨by decide, by decide, by decide +kernel⟩, by decide⟩
theorem mvJS_coder : MV yJS_coder cJS_coder 1 (some .byte) 0 := ⟨q_208, q_209, q_7, q_210, ⟨by decide, by decide, by decide +kernel⟩, by decide⟩
theorem mvJS_indexOf0 : MV yJS_indexOf0 cJS_indexOf0 2 (some .int) 1 := ⟨q_708, q_709, q_7, q_710, ⟨by decide, by decide, by decide +kernel⟩, by decide⟩
theorem mvJS_indexOf1 : MV yJS_indexOf1 cJS_indexOf1 3 (some .int) 2 := ⟨q_712, q_713, q_7, q_714, ⟨by decide, by decide, by decide +kernel⟩, by decide⟩
theorem mvJS_isEmpty : MV yJS_isEmpty cJS_isEmpty 1 (some .boolean) 0 := ⟨q_200, q_201, q_7, q_202, ⟨by decide, by decide, by decide +kernel⟩, by decide⟩
theorem mvJS_isLatin1 : MV yJS_isLatin1 cJS_isLatin1 1 (some .boolean) 0 := ⟨q_218, q_219, q_7, q_220, ⟨by decide, by decide, by decide +kernel⟩, by decide⟩
theorem mvJS_length : MV yJS_length cJS_length 1 (some .int) 0 := ⟨q_204, q_205, q_7, q_206, ⟨by decide, by decide, by decide +kernel⟩, by decide⟩
theorem msJL_canEncode : MS yJL_canEncode cJL_canEncode 1 (some .boolean) 1 := ⟨q_720, q_8, q_721, ⟨by decide, by decide, by decide +kernel⟩, by decide⟩
theorem msJL_charAt : MS yJL_charAt cJL_charAt 2 (some .char) 2 := ⟨q_222, q_8, q_223, ⟨by decide, by decide, by decide +kernel⟩, by decide⟩
theorem msJL_indexOf : MS yJL_indexOf cJL_indexOf 4 (some .int) 4 := ⟨q_717, q_8, q_718, ⟨by decide, by decide, by decide +kernel⟩, by decide⟩
theorem msJL_indexOfChar : MS yJL_indexOfChar cJL_indexOfChar 6 (some .int) 4 := ⟨q_725, q_8, q_726, ⟨by decide, by decide, by decide +kernel⟩, by decide⟩
theorem msJU_charAt : MS yJU_charAt cJU_charAt 2 (some .char) 2 := ⟨q_233, q_10, q_234, ⟨by decide, by decide, by decide +kernel⟩, by decide⟩
theorem msJU_checkBoundsBeginEnd : MS yJU_checkBoundsBeginEnd cJU_checkBoundsBeginEnd 3 none 3 := ⟨q_737, q_10, q_738, ⟨by decide, by decide, by decide +kernel⟩, by decide⟩
theorem msJU_checkIndex : MS yJU_checkIndex cJU_checkIndex 2 none 2 := ⟨q_236, q_10, q_237, ⟨by decide, by decide, by decide +kernel⟩, by decide⟩
theorem msJU_getChar : MS yJU_getChar cJU_getChar 2 (some .char) 2 := ⟨q_243, q_10, q_244, ⟨by decide, by decide, by decide +kernel⟩, by decide⟩
theorem msJU_indexOf : MS yJU_indexOf cJU_indexOf 4 (some .int) 4 := ⟨q_728, q_10, q_729, ⟨by decide, by decide, by decide +kernel⟩, by decide⟩
theorem msJU_indexOfChar : MS yJU_indexOfChar cJU_indexOfChar 4 (some .int) 4 := ⟨q_734, q_10, q_735, ⟨by decide, by decide, by decide +kernel⟩, by decide⟩
theorem msJU_indexOfCharUnsafe : MS yJU_indexOfCharUnsafe cJU_indexOfCharUnsafe 5 (some .int) 4 := ⟨q_746, q_10, q_747, ⟨by decide, by decide, by decide +kernel⟩, by decide⟩
theorem msJU_indexOfSupplementary : MS yJU_indexOfSupplementary cJU_indexOfSupplementary 7 (some .int) 4 := ⟨q_749, q_10, q_750, ⟨by decide, by decide, by decide +kernel⟩, by decide⟩
theorem msJU_length : MS yJU_length cJU_length 1 (some .int) 1 := ⟨q_239, q_10, q_240, ⟨by decide, by decide, by decide +kernel⟩, by decide⟩
theorem msJA_fill : MS yJA_fill cJA_fill 4 none 2 := ⟨q_30, q_3, q_31, ⟨by decide, by decide, by decide +kernel⟩, by decide⟩
theorem msJP_checkFromToIndex : MS yJP_checkFromToIndex cJP_checkFromToIndex 4 (some .int) 4 := ⟨q_743, q_9, q_744, ⟨by decide, by decide, by decide +kernel⟩, by decide⟩
theorem msJP_checkIndex : MS yJP_checkIndex cJP_checkIndex 3 (some .int) 3 := ⟨q_230, q_9, q_231, ⟨by decide, by decide, by decide +kernel⟩, by decide⟩
end
section
/-! what stands at each place of the code -/
theorem dB_init_0 : decode cB_init 0 = .ok (.aload_n 0, 1) := by decide +kernel
theorem dB_init_1 : decode cB_init 1 = .ok (.invokespecial 3, 3) := by decide +kernel
theorem dB_init_4 : decode cB_init 4 = .ok (.aload_n 0, 1) := by decide +kernel
theorem dB_init_5 : decode cB_init 5 = .ok (.bipush 6, 2) := by decide +kernel
theorem dB_init_7 : decode cB_init 7 = .ok (.newarray .int, 2) := by decide +kernel
theorem dB_init_9 : decode cB_init 9 = .ok (.putfield 9, 3) := by decide +kernel
theorem dB_init_12 : decode cB_init 12 = .ok (.aload_n 0, 1) := by decide +kernel
theorem dB_init_13 : decode cB_init 13 = .ok (.bipush 6, 2) := by decide +kernel
theorem dB_init_15 : decode cB_init 15 = .ok (.newarray .int, 2) := by decide +kernel
theorem dB_init_17 : decode cB_init 17 = .ok (.putfield 15, 3) := by decide +kernel
theorem dB_init_20 : decode cB_init 20 = .ok (.aload_n 0, 1) := by decide +kernel
theorem dB_init_21 : decode cB_init 21 = .ok (.bipush 7, 2) := by decide +kernel
theorem dB_init_23 : decode cB_init 23 = .ok (.newarray .int, 2) := by decide +kernel
theorem dB_init_25 : decode cB_init 25 = .ok (.putfield 18, 3) := by decide +kernel
theorem dB_init_28 : decode cB_init 28 = .ok (.aload_n 0, 1) := by decide +kernel
theorem dB_init_29 : decode cB_init 29 = .ok (.bipush 7, 2) := by decide +kernel
theorem dB_init_31 : decode cB_init 31 = .ok (.newarray .int, 2) := by decide +kernel
theorem dB_init_33 : decode cB_init 33 = .ok (.putfield 21, 3) := by decide +kernel
theorem dB_init_36 : decode cB_init 36 = .ok (.aload_n 0, 1) := by decide +kernel
theorem dB_init_37 : decode cB_init 37 = .ok (.bipush 7, 2) := by decide +kernel
theorem dB_init_39 : decode cB_init 39 = .ok (.newarray .int, 2) := by decide +kernel
theorem dB_init_41 : decode cB_init 41 = .ok (.putfield 24, 3) := by decide +kernel
theorem dB_init_44 : decode cB_init 44 = .ok (.aload_n 0, 1) := by decide +kernel
theorem dB_init_45 : decode cB_init 45 = .ok (.bipush 7, 2) := by decide +kernel
theorem dB_init_47 : decode cB_init 47 = .ok (.newarray .int, 2) := by decide +kernel
theorem dB_init_49 : decode cB_init 49 = .ok (.putfield 27, 3) := by decide +kernel
theorem dB_init_52 : decode cB_init 52 = .ok (.aload_n 0, 1) := by decide +kernel
theorem dB_init_53 : decode cB_init 53 = .ok (.bipush 7, 2) := by decide +kernel
theorem dB_init_55 : decode cB_init 55 = .ok (.newarray .int, 2) := by decide +kernel
theorem dB_init_57 : decode cB_init 57 = .ok (.putfield 30, 3) := by decide +kernel
theorem dB_init_60 : decode cB_init 60 = .ok (.aload_n 0, 1) := by decide +kernel
theorem dB_init_61 : decode cB_init 61 = .ok (.iconst 0, 1) := by decide +kernel
theorem dB_init_62 : decode cB_init 62 = .ok (.putfield 33, 3) := by decide +kernel
theorem dB_init_65 : decode cB_init 65 = .ok (.aload_n 0, 1) := by decide +kernel
theorem dB_init_66 : decode cB_init 66 = .ok (.iconst 5, 1) := by decide +kernel
theorem dB_init_67 : decode cB_init 67 = .ok (.newarray .int, 2) := by decide +kernel
theorem dB_init_69 : decode cB_init 69 = .ok (.putfield 37, 3) := by decide +kernel
theorem dB_init_72 : decode cB_init 72 = .ok (.aload_n 0, 1) := by decide +kernel
theorem dB_init_73 : decode cB_init 73 = .ok (.iconst 5, 1) := by decide +kernel
theorem dB_init_74 : decode cB_init 74 = .ok (.newarray .int, 2) := by decide +kernel
theorem dB_init_76 : decode cB_init 76 = .ok (.putfield 40, 3) := by decide +kernel
theorem dB_init_79 : decode cB_init 79 = .ok (.aload_n 0, 1) := by decide +kernel
theorem dB_init_80 : decode cB_init 80 = .ok (.iconst 5, 1) := by decide +kernel
theorem dB_init_81 : decode cB_init 81 = .ok (.newarray .int, 2) := by decide +kernel
theorem dB_init_83 : decode cB_init 83 = .ok (.putfield 43, 3) := by decide +kernel
theorem dB_init_86 : decode cB_init 86 = .ok (.aload_n 0, 1) := by decide +kernel
theorem dB_init_87 : decode cB_init 87 = .ok (.iconst 5, 1) := by decide +kernel
theorem dB_init_88 : decode cB_init 88 = .ok (.newarray .int, 2) := by decide +kernel
theorem dB_init_90 : decode cB_init 90 = .ok (.putfield 46, 3) := by decide +kernel
theorem dB_init_93 : decode cB_init 93 = .ok (.aload_n 0, 1) := by decide +kernel
theorem dB_init_94 : decode cB_init 94 = .ok (.iconst 0, 1) := by decide +kernel
theorem dB_init_95 : decode cB_init 95 = .ok (.putfield 49, 3) := by decide +kernel
theorem dB_init_98 : decode cB_init 98 = .ok (.aload_n 0, 1) := by decide +kernel
theorem dB_init_99 : decode cB_init 99 = .ok (.bipush 6, 2) := by decide +kernel
theorem dB_init_101 : decode cB_init 101 = .ok (.newarray .int, 2) := by decide +kernel
theorem dB_init_103 : decode cB_init 103 = .ok (.putfield 52, 3) := by decide +kernel
theorem dB_init_106 : decode cB_init 106 = .ok (.aload_n 0, 1) := by decide +kernel
theorem dB_init_107 : decode cB_init 107 = .ok (.iconst 0, 1) := by decide +kernel
theorem dB_init_108 : decode cB_init 108 = .ok (.putfield 55, 3) := by decide +kernel
theorem dB_init_111 : decode cB_init 111 = .ok (.aload_n 0, 1) := by decide +kernel
theorem dB_init_112 : decode cB_init 112 = .ok (.iconst 0, 1) := by decide +kernel
theorem dB_init_113 : decode cB_init 113 = .ok (.putfield 58, 3) := by decide +kernel
theorem dB_init_116 : decode cB_init 116 = .ok (.aload_n 0, 1) := by decide +kernel
theorem dB_init_117 : decode cB_init 117 = .ok (.getfield 9, 3) := by decide +kernel
theorem dB_init_120 : decode cB_init 120 = .ok (.bipush 100, 2) := by decide +kernel
theorem dB_init_122 : decode cB_init 122 = .ok (.invokestatic 61, 3) := by decide +kernel
theorem dB_init_125 : decode cB_init 125 = .ok (.return_, 1) := by decide +kernel
theorem dB_airBehind_0 : decode cB_airBehind 0 = .ok (.iload_n 1, 1) := by decide +kernel
theorem dB_airBehind_1 : decode cB_airBehind 1 = .ok (.invokestatic 73, 3) := by decide +kernel
theorem dB_airBehind_4 : decode cB_airBehind 4 = .ok (.ifCond .eq 26, 3) := by decide +kernel
theorem dB_airBehind_7 : decode cB_airBehind 7 = .ok (.iconst 0, 1) := by decide +kernel
theorem dB_airBehind_8 : decode cB_airBehind 8 = .ok (.aload_n 0, 1) := by decide +kernel
theorem dB_airBehind_9 : decode cB_airBehind 9 = .ok (.getfield 9, 3) := by decide +kernel
theorem dB_airBehind_12 : decode cB_airBehind 12 = .ok (.iload_n 1, 1) := by decide +kernel
theorem dB_airBehind_13 : decode cB_airBehind 13 = .ok (.iaload, 1) := by decide +kernel
theorem dB_airBehind_14 : decode cB_airBehind 14 = .ok (.iload_n 3, 1) := by decide +kernel
theorem dB_airBehind_15 : decode cB_airBehind 15 = .ok (.iload_n 2, 1) := by decide +kernel
theorem dB_airBehind_16 : decode cB_airBehind 16 = .ok (.aload_n 0, 1) := by decide +kernel
theorem dB_airBehind_17 : decode cB_airBehind 17 = .ok (.iload_n 1, 1) := by decide +kernel
theorem dB_airBehind_18 : decode cB_airBehind 18 = .ok (.invokevirtual 100, 3) := by decide +kernel
theorem dB_airBehind_21 : decode cB_airBehind 21 = .ok (.iadd, 1) := by decide +kernel
theorem dB_airBehind_22 : decode cB_airBehind 22 = .ok (.imul, 1) := by decide +kernel
theorem dB_airBehind_23 : decode cB_airBehind 23 = .ok (.isub, 1) := by decide +kernel
theorem dB_airBehind_24 : decode cB_airBehind 24 = .ok (.invokestatic 86, 3) := by decide +kernel
theorem dB_airBehind_27 : decode cB_airBehind 27 = .ok (.goto 4, 3) := by decide +kernel
theorem dB_airBehind_30 : decode cB_airBehind 30 = .ok (.iconst 0, 1) := by decide +kernel
theorem dB_airBehind_31 : decode cB_airBehind 31 = .ok (.ireturn, 1) := by decide +kernel
theorem dB_become_0 : decode cB_become 0 = .ok (.aload_n 1, 1) := by decide +kernel
theorem dB_become_1 : decode cB_become 1 = .ok (.getfield 9, 3) := by decide +kernel
theorem dB_become_4 : decode cB_become 4 = .ok (.iconst 0, 1) := by decide +kernel
theorem dB_become_5 : decode cB_become 5 = .ok (.aload_n 0, 1) := by decide +kernel
theorem dB_become_6 : decode cB_become 6 = .ok (.getfield 9, 3) := by decide +kernel
theorem dB_become_9 : decode cB_become 9 = .ok (.iconst 0, 1) := by decide +kernel
theorem dB_become_10 : decode cB_become 10 = .ok (.bipush 6, 2) := by decide +kernel
theorem dB_become_12 : decode cB_become 12 = .ok (.invokestatic 67, 3) := by decide +kernel
theorem dB_become_15 : decode cB_become 15 = .ok (.aload_n 1, 1) := by decide +kernel
theorem dB_become_16 : decode cB_become 16 = .ok (.getfield 15, 3) := by decide +kernel
theorem dB_become_19 : decode cB_become 19 = .ok (.iconst 0, 1) := by decide +kernel
theorem dB_become_20 : decode cB_become 20 = .ok (.aload_n 0, 1) := by decide +kernel
theorem dB_become_21 : decode cB_become 21 = .ok (.getfield 15, 3) := by decide +kernel
theorem dB_become_24 : decode cB_become 24 = .ok (.iconst 0, 1) := by decide +kernel
theorem dB_become_25 : decode cB_become 25 = .ok (.bipush 6, 2) := by decide +kernel
theorem dB_become_27 : decode cB_become 27 = .ok (.invokestatic 67, 3) := by decide +kernel
theorem dB_become_30 : decode cB_become 30 = .ok (.aload_n 1, 1) := by decide +kernel
theorem dB_become_31 : decode cB_become 31 = .ok (.getfield 18, 3) := by decide +kernel
theorem dB_become_34 : decode cB_become 34 = .ok (.iconst 0, 1) := by decide +kernel
theorem dB_become_35 : decode cB_become 35 = .ok (.aload_n 0, 1) := by decide +kernel
theorem dB_become_36 : decode cB_become 36 = .ok (.getfield 18, 3) := by decide +kernel
theorem dB_become_39 : decode cB_become 39 = .ok (.iconst 0, 1) := by decide +kernel
theorem dB_become_40 : decode cB_become 40 = .ok (.bipush 7, 2) := by decide +kernel
theorem dB_become_42 : decode cB_become 42 = .ok (.invokestatic 67, 3) := by decide +kernel
theorem dB_become_45 : decode cB_become 45 = .ok (.aload_n 1, 1) := by decide +kernel
theorem dB_become_46 : decode cB_become 46 = .ok (.getfield 21, 3) := by decide +kernel
theorem dB_become_49 : decode cB_become 49 = .ok (.iconst 0, 1) := by decide +kernel
theorem dB_become_50 : decode cB_become 50 = .ok (.aload_n 0, 1) := by decide +kernel
theorem dB_become_51 : decode cB_become 51 = .ok (.getfield 21, 3) := by decide +kernel
theorem dB_become_54 : decode cB_become 54 = .ok (.iconst 0, 1) := by decide +kernel
theorem dB_become_55 : decode cB_become 55 = .ok (.bipush 7, 2) := by decide +kernel
theorem dB_become_57 : decode cB_become 57 = .ok (.invokestatic 67, 3) := by decide +kernel
theorem dB_become_60 : decode cB_become 60 = .ok (.aload_n 1, 1) := by decide +kernel
theorem dB_become_61 : decode cB_become 61 = .ok (.getfield 24, 3) := by decide +kernel
theorem dB_become_64 : decode cB_become 64 = .ok (.iconst 0, 1) := by decide +kernel
theorem dB_become_65 : decode cB_become 65 = .ok (.aload_n 0, 1) := by decide +kernel
theorem dB_become_66 : decode cB_become 66 = .ok (.getfield 24, 3) := by decide +kernel
theorem dB_become_69 : decode cB_become 69 = .ok (.iconst 0, 1) := by decide +kernel
theorem dB_become_70 : decode cB_become 70 = .ok (.bipush 7, 2) := by decide +kernel
theorem dB_become_72 : decode cB_become 72 = .ok (.invokestatic 67, 3) := by decide +kernel
theorem dB_become_75 : decode cB_become 75 = .ok (.aload_n 1, 1) := by decide +kernel
theorem dB_become_76 : decode cB_become 76 = .ok (.getfield 27, 3) := by decide +kernel
theorem dB_become_79 : decode cB_become 79 = .ok (.iconst 0, 1) := by decide +kernel
theorem dB_become_80 : decode cB_become 80 = .ok (.aload_n 0, 1) := by decide +kernel
theorem dB_become_81 : decode cB_become 81 = .ok (.getfield 27, 3) := by decide +kernel
theorem dB_become_84 : decode cB_become 84 = .ok (.iconst 0, 1) := by decide +kernel
theorem dB_become_85 : decode cB_become 85 = .ok (.bipush 7, 2) := by decide +kernel
theorem dB_become_87 : decode cB_become 87 = .ok (.invokestatic 67, 3) := by decide +kernel
theorem dB_become_90 : decode cB_become 90 = .ok (.aload_n 1, 1) := by decide +kernel
theorem dB_become_91 : decode cB_become 91 = .ok (.getfield 30, 3) := by decide +kernel
theorem dB_become_94 : decode cB_become 94 = .ok (.iconst 0, 1) := by decide +kernel
theorem dB_become_95 : decode cB_become 95 = .ok (.aload_n 0, 1) := by decide +kernel
theorem dB_become_96 : decode cB_become 96 = .ok (.getfield 30, 3) := by decide +kernel
theorem dB_become_99 : decode cB_become 99 = .ok (.iconst 0, 1) := by decide +kernel
theorem dB_become_100 : decode cB_become 100 = .ok (.bipush 7, 2) := by decide +kernel
theorem dB_become_102 : decode cB_become 102 = .ok (.invokestatic 67, 3) := by decide +kernel
theorem dB_become_105 : decode cB_become 105 = .ok (.aload_n 0, 1) := by decide +kernel
theorem dB_become_106 : decode cB_become 106 = .ok (.aload_n 1, 1) := by decide +kernel
theorem dB_become_107 : decode cB_become 107 = .ok (.getfield 33, 3) := by decide +kernel
theorem dB_become_110 : decode cB_become 110 = .ok (.putfield 33, 3) := by decide +kernel
theorem dB_become_113 : decode cB_become 113 = .ok (.aload_n 1, 1) := by decide +kernel
theorem dB_become_114 : decode cB_become 114 = .ok (.getfield 37, 3) := by decide +kernel
theorem dB_become_117 : decode cB_become 117 = .ok (.iconst 0, 1) := by decide +kernel
theorem dB_become_118 : decode cB_become 118 = .ok (.aload_n 0, 1) := by decide +kernel
theorem dB_become_119 : decode cB_become 119 = .ok (.getfield 37, 3) := by decide +kernel
theorem dB_become_122 : decode cB_become 122 = .ok (.iconst 0, 1) := by decide +kernel
theorem dB_become_123 : decode cB_become 123 = .ok (.iconst 5, 1) := by decide +kernel
theorem dB_become_124 : decode cB_become 124 = .ok (.invokestatic 67, 3) := by decide +kernel
theorem dB_become_127 : decode cB_become 127 = .ok (.aload_n 1, 1) := by decide +kernel
theorem dB_become_128 : decode cB_become 128 = .ok (.getfield 40, 3) := by decide +kernel
theorem dB_become_131 : decode cB_become 131 = .ok (.iconst 0, 1) := by decide +kernel
theorem dB_become_132 : decode cB_become 132 = .ok (.aload_n 0, 1) := by decide +kernel
theorem dB_become_133 : decode cB_become 133 = .ok (.getfield 40, 3) := by decide +kernel
theorem dB_become_136 : decode cB_become 136 = .ok (.iconst 0, 1) := by decide +kernel
theorem dB_become_137 : decode cB_become 137 = .ok (.iconst 5, 1) := by decide +kernel
theorem dB_become_138 : decode cB_become 138 = .ok (.invokestatic 67, 3) := by decide +kernel
theorem dB_become_141 : decode cB_become 141 = .ok (.aload_n 1, 1) := by decide +kernel
theorem dB_become_142 : decode cB_become 142 = .ok (.getfield 43, 3) := by decide +kernel
theorem dB_become_145 : decode cB_become 145 = .ok (.iconst 0, 1) := by decide +kernel
theorem dB_become_146 : decode cB_become 146 = .ok (.aload_n 0, 1) := by decide +kernel
theorem dB_become_147 : decode cB_become 147 = .ok (.getfield 43, 3) := by decide +kernel
theorem dB_become_150 : decode cB_become 150 = .ok (.iconst 0, 1) := by decide +kernel
theorem dB_become_151 : decode cB_become 151 = .ok (.iconst 5, 1) := by decide +kernel
theorem dB_become_152 : decode cB_become 152 = .ok (.invokestatic 67, 3) := by decide +kernel
theorem dB_become_155 : decode cB_become 155 = .ok (.aload_n 1, 1) := by decide +kernel
theorem dB_become_156 : decode cB_become 156 = .ok (.getfield 46, 3) := by decide +kernel
theorem dB_become_159 : decode cB_become 159 = .ok (.iconst 0, 1) := by decide +kernel
theorem dB_become_160 : decode cB_become 160 = .ok (.aload_n 0, 1) := by decide +kernel
theorem dB_become_161 : decode cB_become 161 = .ok (.getfield 46, 3) := by decide +kernel
theorem dB_become_164 : decode cB_become 164 = .ok (.iconst 0, 1) := by decide +kernel
theorem dB_become_165 : decode cB_become 165 = .ok (.iconst 5, 1) := by decide +kernel
theorem dB_become_166 : decode cB_become 166 = .ok (.invokestatic 67, 3) := by decide +kernel
theorem dB_become_169 : decode cB_become 169 = .ok (.aload_n 0, 1) := by decide +kernel
theorem dB_become_170 : decode cB_become 170 = .ok (.aload_n 1, 1) := by decide +kernel
theorem dB_become_171 : decode cB_become 171 = .ok (.getfield 49, 3) := by decide +kernel
theorem dB_become_174 : decode cB_become 174 = .ok (.putfield 49, 3) := by decide +kernel
theorem dB_become_177 : decode cB_become 177 = .ok (.aload_n 1, 1) := by decide +kernel
theorem dB_become_178 : decode cB_become 178 = .ok (.getfield 52, 3) := by decide +kernel
theorem dB_become_181 : decode cB_become 181 = .ok (.iconst 0, 1) := by decide +kernel
theorem dB_become_182 : decode cB_become 182 = .ok (.aload_n 0, 1) := by decide +kernel
theorem dB_become_183 : decode cB_become 183 = .ok (.getfield 52, 3) := by decide +kernel
theorem dB_become_186 : decode cB_become 186 = .ok (.iconst 0, 1) := by decide +kernel
theorem dB_become_187 : decode cB_become 187 = .ok (.bipush 6, 2) := by decide +kernel
theorem dB_become_189 : decode cB_become 189 = .ok (.invokestatic 67, 3) := by decide +kernel
theorem dB_become_192 : decode cB_become 192 = .ok (.aload_n 0, 1) := by decide +kernel
theorem dB_become_193 : decode cB_become 193 = .ok (.aload_n 1, 1) := by decide +kernel
theorem dB_become_194 : decode cB_become 194 = .ok (.getfield 55, 3) := by decide +kernel
theorem dB_become_197 : decode cB_become 197 = .ok (.putfield 55, 3) := by decide +kernel
theorem dB_become_200 : decode cB_become 200 = .ok (.aload_n 0, 1) := by decide +kernel
theorem dB_become_201 : decode cB_become 201 = .ok (.aload_n 1, 1) := by decide +kernel
theorem dB_become_202 : decode cB_become 202 = .ok (.getfield 58, 3) := by decide +kernel
theorem dB_become_205 : decode cB_become 205 = .ok (.putfield 58, 3) := by decide +kernel
theorem dB_become_208 : decode cB_become 208 = .ok (.return_, 1) := by decide +kernel
theorem dB_breathIn_0 : decode cB_breathIn 0 = .ok (.aload_n 0, 1) := by decide +kernel
theorem dB_breathIn_1 : decode cB_breathIn 1 = .ok (.iload_n 1, 1) := by decide +kernel
theorem dB_breathIn_2 : decode cB_breathIn 2 = .ok (.invokevirtual 92, 3) := by decide +kernel
theorem dB_breathIn_5 : decode cB_breathIn 5 = .ok (.iconst 1, 1) := by decide +kernel
theorem dB_breathIn_6 : decode cB_breathIn 6 = .ok (.if_icmp .ne 7, 3) := by decide +kernel
theorem dB_breathIn_9 : decode cB_breathIn 9 = .ok (.iconst 1, 1) := by decide +kernel
theorem dB_breathIn_10 : decode cB_breathIn 10 = .ok (.goto 4, 3) := by decide +kernel
theorem dB_breathIn_13 : decode cB_breathIn 13 = .ok (.iconst 0, 1) := by decide +kernel
theorem dB_breathIn_14 : decode cB_breathIn 14 = .ok (.istore_n 2, 1) := by decide +kernel
theorem dB_breathIn_15 : decode cB_breathIn 15 = .ok (.iconst 0, 1) := by decide +kernel
theorem dB_breathIn_16 : decode cB_breathIn 16 = .ok (.istore_n 3, 1) := by decide +kernel
theorem dB_breathIn_17 : decode cB_breathIn 17 = .ok (.iconst 0, 1) := by decide +kernel
theorem dB_breathIn_18 : decode cB_breathIn 18 = .ok (.istore 4, 2) := by decide +kernel
theorem dB_breathIn_20 : decode cB_breathIn 20 = .ok (.iload 4, 2) := by decide +kernel
theorem dB_breathIn_22 : decode cB_breathIn 22 = .ok (.aload_n 0, 1) := by decide +kernel
theorem dB_breathIn_23 : decode cB_breathIn 23 = .ok (.getfield 49, 3) := by decide +kernel
theorem dB_breathIn_26 : decode cB_breathIn 26 = .ok (.if_icmp .ge 34, 3) := by decide +kernel
theorem dB_breathIn_29 : decode cB_breathIn 29 = .ok (.aload_n 0, 1) := by decide +kernel
theorem dB_breathIn_30 : decode cB_breathIn 30 = .ok (.getfield 40, 3) := by decide +kernel
theorem dB_breathIn_33 : decode cB_breathIn 33 = .ok (.iload 4, 2) := by decide +kernel
theorem dB_breathIn_35 : decode cB_breathIn 35 = .ok (.iaload, 1) := by decide +kernel
theorem dB_breathIn_36 : decode cB_breathIn 36 = .ok (.iload_n 1, 1) := by decide +kernel
theorem dB_breathIn_37 : decode cB_breathIn 37 = .ok (.if_icmp .ne 17, 3) := by decide +kernel
theorem dB_breathIn_40 : decode cB_breathIn 40 = .ok (.iload_n 3, 1) := by decide +kernel
theorem dB_breathIn_41 : decode cB_breathIn 41 = .ok (.aload_n 0, 1) := by decide +kernel
theorem dB_breathIn_42 : decode cB_breathIn 42 = .ok (.getfield 37, 3) := by decide +kernel
theorem dB_breathIn_45 : decode cB_breathIn 45 = .ok (.iload 4, 2) := by decide +kernel
theorem dB_breathIn_47 : decode cB_breathIn 47 = .ok (.iaload, 1) := by decide +kernel
theorem dB_breathIn_48 : decode cB_breathIn 48 = .ok (.iload_n 2, 1) := by decide +kernel
theorem dB_breathIn_49 : decode cB_breathIn 49 = .ok (.invokestatic 96, 3) := by decide +kernel
theorem dB_breathIn_52 : decode cB_breathIn 52 = .ok (.iadd, 1) := by decide +kernel
theorem dB_breathIn_53 : decode cB_breathIn 53 = .ok (.istore_n 3, 1) := by decide +kernel
theorem dB_breathIn_54 : decode cB_breathIn 54 = .ok (.iinc 4 1, 3) := by decide +kernel
theorem dB_breathIn_57 : decode cB_breathIn 57 = .ok (.goto (-37), 3) := by decide +kernel
theorem dB_breathIn_60 : decode cB_breathIn 60 = .ok (.iload_n 3, 1) := by decide +kernel
theorem dB_breathIn_61 : decode cB_breathIn 61 = .ok (.ireturn, 1) := by decide +kernel
theorem dB_breathOf_0 : decode cB_breathOf 0 = .ok (.aload_n 0, 1) := by decide +kernel
theorem dB_breathOf_1 : decode cB_breathOf 1 = .ok (.iload_n 1, 1) := by decide +kernel
theorem dB_breathOf_2 : decode cB_breathOf 2 = .ok (.invokevirtual 89, 3) := by decide +kernel
theorem dB_breathOf_5 : decode cB_breathOf 5 = .ok (.ifCond .eq 15, 3) := by decide +kernel
theorem dB_breathOf_8 : decode cB_breathOf 8 = .ok (.aload_n 0, 1) := by decide +kernel
theorem dB_breathOf_9 : decode cB_breathOf 9 = .ok (.getfield 40, 3) := by decide +kernel
theorem dB_breathOf_12 : decode cB_breathOf 12 = .ok (.iload_n 1, 1) := by decide +kernel
theorem dB_breathOf_13 : decode cB_breathOf 13 = .ok (.iaload, 1) := by decide +kernel
theorem dB_breathOf_14 : decode cB_breathOf 14 = .ok (.invokestatic 73, 3) := by decide +kernel
theorem dB_breathOf_17 : decode cB_breathOf 17 = .ok (.ifCond .ne 5, 3) := by decide +kernel
theorem dB_breathOf_20 : decode cB_breathOf 20 = .ok (.iconst 0, 1) := by decide +kernel
theorem dB_breathOf_21 : decode cB_breathOf 21 = .ok (.ireturn, 1) := by decide +kernel
theorem dB_breathOf_22 : decode cB_breathOf 22 = .ok (.aload_n 0, 1) := by decide +kernel
theorem dB_breathOf_23 : decode cB_breathOf 23 = .ok (.getfield 37, 3) := by decide +kernel
theorem dB_breathOf_26 : decode cB_breathOf 26 = .ok (.iload_n 1, 1) := by decide +kernel
theorem dB_breathOf_27 : decode cB_breathOf 27 = .ok (.iaload, 1) := by decide +kernel
theorem dB_breathOf_28 : decode cB_breathOf 28 = .ok (.aload_n 0, 1) := by decide +kernel
theorem dB_breathOf_29 : decode cB_breathOf 29 = .ok (.aload_n 0, 1) := by decide +kernel
theorem dB_breathOf_30 : decode cB_breathOf 30 = .ok (.getfield 40, 3) := by decide +kernel
theorem dB_breathOf_33 : decode cB_breathOf 33 = .ok (.iload_n 1, 1) := by decide +kernel
theorem dB_breathOf_34 : decode cB_breathOf 34 = .ok (.iaload, 1) := by decide +kernel
theorem dB_breathOf_35 : decode cB_breathOf 35 = .ok (.invokevirtual 92, 3) := by decide +kernel
theorem dB_breathOf_38 : decode cB_breathOf 38 = .ok (.iconst 1, 1) := by decide +kernel
theorem dB_breathOf_39 : decode cB_breathOf 39 = .ok (.if_icmp .ne 7, 3) := by decide +kernel
theorem dB_breathOf_42 : decode cB_breathOf 42 = .ok (.iconst 1, 1) := by decide +kernel
theorem dB_breathOf_43 : decode cB_breathOf 43 = .ok (.goto 4, 3) := by decide +kernel
theorem dB_breathOf_46 : decode cB_breathOf 46 = .ok (.iconst 0, 1) := by decide +kernel
theorem dB_breathOf_47 : decode cB_breathOf 47 = .ok (.invokestatic 96, 3) := by decide +kernel
theorem dB_breathOf_50 : decode cB_breathOf 50 = .ok (.ireturn, 1) := by decide +kernel
theorem dB_canPass_0 : decode cB_canPass 0 = .ok (.aload_n 0, 1) := by decide +kernel
theorem dB_canPass_1 : decode cB_canPass 1 = .ok (.iload_n 1, 1) := by decide +kernel
theorem dB_canPass_2 : decode cB_canPass 2 = .ok (.invokevirtual 89, 3) := by decide +kernel
theorem dB_canPass_5 : decode cB_canPass 5 = .ok (.ifCond .eq 20, 3) := by decide +kernel
theorem dB_canPass_8 : decode cB_canPass 8 = .ok (.aload_n 0, 1) := by decide +kernel
theorem dB_canPass_9 : decode cB_canPass 9 = .ok (.iload_n 2, 1) := by decide +kernel
theorem dB_canPass_10 : decode cB_canPass 10 = .ok (.invokevirtual 107, 3) := by decide +kernel
theorem dB_canPass_13 : decode cB_canPass 13 = .ok (.ifCond .eq 12, 3) := by decide +kernel
theorem dB_canPass_16 : decode cB_canPass 16 = .ok (.aload_n 0, 1) := by decide +kernel
theorem dB_canPass_17 : decode cB_canPass 17 = .ok (.getfield 30, 3) := by decide +kernel
theorem dB_canPass_20 : decode cB_canPass 20 = .ok (.iload_n 2, 1) := by decide +kernel
theorem dB_canPass_21 : decode cB_canPass 21 = .ok (.iaload, 1) := by decide +kernel
theorem dB_canPass_22 : decode cB_canPass 22 = .ok (.ifCond .eq 5, 3) := by decide +kernel
theorem dB_canPass_25 : decode cB_canPass 25 = .ok (.iconst 0, 1) := by decide +kernel
theorem dB_canPass_26 : decode cB_canPass 26 = .ok (.ireturn, 1) := by decide +kernel
theorem dB_canPass_27 : decode cB_canPass 27 = .ok (.aload_n 0, 1) := by decide +kernel
theorem dB_canPass_28 : decode cB_canPass 28 = .ok (.getfield 40, 3) := by decide +kernel
theorem dB_canPass_31 : decode cB_canPass 31 = .ok (.iload_n 1, 1) := by decide +kernel
theorem dB_canPass_32 : decode cB_canPass 32 = .ok (.iaload, 1) := by decide +kernel
theorem dB_canPass_33 : decode cB_canPass 33 = .ok (.aload_n 0, 1) := by decide +kernel
theorem dB_canPass_34 : decode cB_canPass 34 = .ok (.getfield 18, 3) := by decide +kernel
theorem dB_canPass_37 : decode cB_canPass 37 = .ok (.iload_n 2, 1) := by decide +kernel
theorem dB_canPass_38 : decode cB_canPass 38 = .ok (.iaload, 1) := by decide +kernel
theorem dB_canPass_39 : decode cB_canPass 39 = .ok (.if_icmp .eq 18, 3) := by decide +kernel
theorem dB_canPass_42 : decode cB_canPass 42 = .ok (.aload_n 0, 1) := by decide +kernel
theorem dB_canPass_43 : decode cB_canPass 43 = .ok (.getfield 40, 3) := by decide +kernel
theorem dB_canPass_46 : decode cB_canPass 46 = .ok (.iload_n 1, 1) := by decide +kernel
theorem dB_canPass_47 : decode cB_canPass 47 = .ok (.iaload, 1) := by decide +kernel
theorem dB_canPass_48 : decode cB_canPass 48 = .ok (.aload_n 0, 1) := by decide +kernel
theorem dB_canPass_49 : decode cB_canPass 49 = .ok (.getfield 21, 3) := by decide +kernel
theorem dB_canPass_52 : decode cB_canPass 52 = .ok (.iload_n 2, 1) := by decide +kernel
theorem dB_canPass_53 : decode cB_canPass 53 = .ok (.iaload, 1) := by decide +kernel
theorem dB_canPass_54 : decode cB_canPass 54 = .ok (.if_icmp .ne 7, 3) := by decide +kernel
theorem dB_canPass_57 : decode cB_canPass 57 = .ok (.iconst 1, 1) := by decide +kernel
theorem dB_canPass_58 : decode cB_canPass 58 = .ok (.goto 4, 3) := by decide +kernel
theorem dB_canPass_61 : decode cB_canPass 61 = .ok (.iconst 0, 1) := by decide +kernel
theorem dB_canPass_62 : decode cB_canPass 62 = .ok (.ireturn, 1) := by decide +kernel
theorem dB_goThrough_0 : decode cB_goThrough 0 = .ok (.aload_n 0, 1) := by decide +kernel
theorem dB_goThrough_1 : decode cB_goThrough 1 = .ok (.iload_n 1, 1) := by decide +kernel
theorem dB_goThrough_2 : decode cB_goThrough 2 = .ok (.iload_n 2, 1) := by decide +kernel
theorem dB_goThrough_3 : decode cB_goThrough 3 = .ok (.invokevirtual 110, 3) := by decide +kernel
theorem dB_goThrough_6 : decode cB_goThrough 6 = .ok (.ifCond .ne 4, 3) := by decide +kernel
theorem dB_goThrough_9 : decode cB_goThrough 9 = .ok (.return_, 1) := by decide +kernel
theorem dB_goThrough_10 : decode cB_goThrough 10 = .ok (.aload_n 0, 1) := by decide +kernel
theorem dB_goThrough_11 : decode cB_goThrough 11 = .ok (.getfield 18, 3) := by decide +kernel
theorem dB_goThrough_14 : decode cB_goThrough 14 = .ok (.iload_n 2, 1) := by decide +kernel
theorem dB_goThrough_15 : decode cB_goThrough 15 = .ok (.iaload, 1) := by decide +kernel
theorem dB_goThrough_16 : decode cB_goThrough 16 = .ok (.istore_n 3, 1) := by decide +kernel
theorem dB_goThrough_17 : decode cB_goThrough 17 = .ok (.aload_n 0, 1) := by decide +kernel
theorem dB_goThrough_18 : decode cB_goThrough 18 = .ok (.getfield 40, 3) := by decide +kernel
theorem dB_goThrough_21 : decode cB_goThrough 21 = .ok (.iload_n 1, 1) := by decide +kernel
theorem dB_goThrough_22 : decode cB_goThrough 22 = .ok (.aload_n 0, 1) := by decide +kernel
theorem dB_goThrough_23 : decode cB_goThrough 23 = .ok (.getfield 40, 3) := by decide +kernel
theorem dB_goThrough_26 : decode cB_goThrough 26 = .ok (.iload_n 1, 1) := by decide +kernel
theorem dB_goThrough_27 : decode cB_goThrough 27 = .ok (.iaload, 1) := by decide +kernel
theorem dB_goThrough_28 : decode cB_goThrough 28 = .ok (.iload_n 3, 1) := by decide +kernel
theorem dB_goThrough_29 : decode cB_goThrough 29 = .ok (.if_icmp .ne 12, 3) := by decide +kernel
theorem dB_goThrough_32 : decode cB_goThrough 32 = .ok (.aload_n 0, 1) := by decide +kernel
theorem dB_goThrough_33 : decode cB_goThrough 33 = .ok (.getfield 21, 3) := by decide +kernel
theorem dB_goThrough_36 : decode cB_goThrough 36 = .ok (.iload_n 2, 1) := by decide +kernel
theorem dB_goThrough_37 : decode cB_goThrough 37 = .ok (.iaload, 1) := by decide +kernel
theorem dB_goThrough_38 : decode cB_goThrough 38 = .ok (.goto 4, 3) := by decide +kernel
theorem dB_goThrough_41 : decode cB_goThrough 41 = .ok (.iload_n 3, 1) := by decide +kernel
theorem dB_goThrough_42 : decode cB_goThrough 42 = .ok (.iastore, 1) := by decide +kernel
theorem dB_goThrough_43 : decode cB_goThrough 43 = .ok (.aload_n 0, 1) := by decide +kernel
theorem dB_goThrough_44 : decode cB_goThrough 44 = .ok (.getfield 21, 3) := by decide +kernel
theorem dB_goThrough_47 : decode cB_goThrough 47 = .ok (.iload_n 2, 1) := by decide +kernel
theorem dB_goThrough_48 : decode cB_goThrough 48 = .ok (.iaload, 1) := by decide +kernel
theorem dB_goThrough_49 : decode cB_goThrough 49 = .ok (.bipush 6, 2) := by decide +kernel
theorem dB_goThrough_51 : decode cB_goThrough 51 = .ok (.if_icmp .ne 33, 3) := by decide +kernel
theorem dB_goThrough_54 : decode cB_goThrough 54 = .ok (.iload_n 3, 1) := by decide +kernel
theorem dB_goThrough_55 : decode cB_goThrough 55 = .ok (.invokestatic 73, 3) := by decide +kernel
theorem dB_goThrough_58 : decode cB_goThrough 58 = .ok (.ifCond .eq 26, 3) := by decide +kernel
theorem dB_goThrough_61 : decode cB_goThrough 61 = .ok (.aload_n 0, 1) := by decide +kernel
theorem dB_goThrough_62 : decode cB_goThrough 62 = .ok (.getfield 9, 3) := by decide +kernel
theorem dB_goThrough_65 : decode cB_goThrough 65 = .ok (.iload_n 3, 1) := by decide +kernel
theorem dB_goThrough_66 : decode cB_goThrough 66 = .ok (.iconst 0, 1) := by decide +kernel
theorem dB_goThrough_67 : decode cB_goThrough 67 = .ok (.aload_n 0, 1) := by decide +kernel
theorem dB_goThrough_68 : decode cB_goThrough 68 = .ok (.getfield 9, 3) := by decide +kernel
theorem dB_goThrough_71 : decode cB_goThrough 71 = .ok (.iload_n 3, 1) := by decide +kernel
theorem dB_goThrough_72 : decode cB_goThrough 72 = .ok (.iaload, 1) := by decide +kernel
theorem dB_goThrough_73 : decode cB_goThrough 73 = .ok (.aload_n 0, 1) := by decide +kernel
theorem dB_goThrough_74 : decode cB_goThrough 74 = .ok (.getfield 24, 3) := by decide +kernel
theorem dB_goThrough_77 : decode cB_goThrough 77 = .ok (.iload_n 2, 1) := by decide +kernel
theorem dB_goThrough_78 : decode cB_goThrough 78 = .ok (.iaload, 1) := by decide +kernel
theorem dB_goThrough_79 : decode cB_goThrough 79 = .ok (.isub, 1) := by decide +kernel
theorem dB_goThrough_80 : decode cB_goThrough 80 = .ok (.invokestatic 86, 3) := by decide +kernel
theorem dB_goThrough_83 : decode cB_goThrough 83 = .ok (.iastore, 1) := by decide +kernel
theorem dB_goThrough_84 : decode cB_goThrough 84 = .ok (.aload_n 0, 1) := by decide +kernel
theorem dB_goThrough_85 : decode cB_goThrough 85 = .ok (.aload_n 0, 1) := by decide +kernel
theorem dB_goThrough_86 : decode cB_goThrough 86 = .ok (.getfield 27, 3) := by decide +kernel
theorem dB_goThrough_89 : decode cB_goThrough 89 = .ok (.iload_n 2, 1) := by decide +kernel
theorem dB_goThrough_90 : decode cB_goThrough 90 = .ok (.iaload, 1) := by decide +kernel
theorem dB_goThrough_91 : decode cB_goThrough 91 = .ok (.invokevirtual 114, 3) := by decide +kernel
theorem dB_goThrough_94 : decode cB_goThrough 94 = .ok (.pop, 1) := by decide +kernel
theorem dB_goThrough_95 : decode cB_goThrough 95 = .ok (.return_, 1) := by decide +kernel
theorem dB_hasLock_0 : decode cB_hasLock 0 = .ok (.iload_n 1, 1) := by decide +kernel
theorem dB_hasLock_1 : decode cB_hasLock 1 = .ok (.ifCond .lt 15, 3) := by decide +kernel
theorem dB_hasLock_4 : decode cB_hasLock 4 = .ok (.iload_n 1, 1) := by decide +kernel
theorem dB_hasLock_5 : decode cB_hasLock 5 = .ok (.aload_n 0, 1) := by decide +kernel
theorem dB_hasLock_6 : decode cB_hasLock 6 = .ok (.getfield 33, 3) := by decide +kernel
theorem dB_hasLock_9 : decode cB_hasLock 9 = .ok (.if_icmp .ge 7, 3) := by decide +kernel
theorem dB_hasLock_12 : decode cB_hasLock 12 = .ok (.iconst 1, 1) := by decide +kernel
theorem dB_hasLock_13 : decode cB_hasLock 13 = .ok (.goto 4, 3) := by decide +kernel
theorem dB_hasLock_16 : decode cB_hasLock 16 = .ok (.iconst 0, 1) := by decide +kernel
theorem dB_hasLock_17 : decode cB_hasLock 17 = .ok (.ireturn, 1) := by decide +kernel
theorem dB_hasPerson_0 : decode cB_hasPerson 0 = .ok (.iload_n 1, 1) := by decide +kernel
theorem dB_hasPerson_1 : decode cB_hasPerson 1 = .ok (.ifCond .lt 15, 3) := by decide +kernel
theorem dB_hasPerson_4 : decode cB_hasPerson 4 = .ok (.iload_n 1, 1) := by decide +kernel
theorem dB_hasPerson_5 : decode cB_hasPerson 5 = .ok (.aload_n 0, 1) := by decide +kernel
theorem dB_hasPerson_6 : decode cB_hasPerson 6 = .ok (.getfield 49, 3) := by decide +kernel
theorem dB_hasPerson_9 : decode cB_hasPerson 9 = .ok (.if_icmp .ge 7, 3) := by decide +kernel
theorem dB_hasPerson_12 : decode cB_hasPerson 12 = .ok (.iconst 1, 1) := by decide +kernel
theorem dB_hasPerson_13 : decode cB_hasPerson 13 = .ok (.goto 4, 3) := by decide +kernel
theorem dB_hasPerson_16 : decode cB_hasPerson 16 = .ok (.iconst 0, 1) := by decide +kernel
theorem dB_hasPerson_17 : decode cB_hasPerson 17 = .ok (.ireturn, 1) := by decide +kernel
theorem dB_leastBare_0 : decode cB_leastBare 0 = .ok (.iconst 1, 1) := by decide +kernel
theorem dB_leastBare_1 : decode cB_leastBare 1 = .ok (.aload_n 0, 1) := by decide +kernel
theorem dB_leastBare_2 : decode cB_leastBare 2 = .ok (.getfield 49, 3) := by decide +kernel
theorem dB_leastBare_5 : decode cB_leastBare 5 = .ok (.ishl, 1) := by decide +kernel
theorem dB_leastBare_6 : decode cB_leastBare 6 = .ok (.iconst 1, 1) := by decide +kernel
theorem dB_leastBare_7 : decode cB_leastBare 7 = .ok (.isub, 1) := by decide +kernel
theorem dB_leastBare_8 : decode cB_leastBare 8 = .ok (.istore_n 1, 1) := by decide +kernel
theorem dB_leastBare_9 : decode cB_leastBare 9 = .ok (.iload_n 1, 1) := by decide +kernel
theorem dB_leastBare_10 : decode cB_leastBare 10 = .ok (.istore_n 2, 1) := by decide +kernel
theorem dB_leastBare_11 : decode cB_leastBare 11 = .ok (.iconst 0, 1) := by decide +kernel
theorem dB_leastBare_12 : decode cB_leastBare 12 = .ok (.istore_n 3, 1) := by decide +kernel
theorem dB_leastBare_13 : decode cB_leastBare 13 = .ok (.iload_n 3, 1) := by decide +kernel
theorem dB_leastBare_14 : decode cB_leastBare 14 = .ok (.iload_n 1, 1) := by decide +kernel
theorem dB_leastBare_15 : decode cB_leastBare 15 = .ok (.if_icmp .ge 30, 3) := by decide +kernel
theorem dB_leastBare_18 : decode cB_leastBare 18 = .ok (.iload_n 3, 1) := by decide +kernel
theorem dB_leastBare_19 : decode cB_leastBare 19 = .ok (.invokestatic 117, 3) := by decide +kernel
theorem dB_leastBare_22 : decode cB_leastBare 22 = .ok (.iload_n 2, 1) := by decide +kernel
theorem dB_leastBare_23 : decode cB_leastBare 23 = .ok (.invokestatic 117, 3) := by decide +kernel
theorem dB_leastBare_26 : decode cB_leastBare 26 = .ok (.if_icmp .ge 13, 3) := by decide +kernel
theorem dB_leastBare_29 : decode cB_leastBare 29 = .ok (.aload_n 0, 1) := by decide +kernel
theorem dB_leastBare_30 : decode cB_leastBare 30 = .ok (.iload_n 3, 1) := by decide +kernel
theorem dB_leastBare_31 : decode cB_leastBare 31 = .ok (.invokevirtual 122, 3) := by decide +kernel
theorem dB_leastBare_34 : decode cB_leastBare 34 = .ok (.ifCond .eq 5, 3) := by decide +kernel
theorem dB_leastBare_37 : decode cB_leastBare 37 = .ok (.iload_n 3, 1) := by decide +kernel
theorem dB_leastBare_38 : decode cB_leastBare 38 = .ok (.istore_n 2, 1) := by decide +kernel
theorem dB_leastBare_39 : decode cB_leastBare 39 = .ok (.iinc 3 1, 3) := by decide +kernel
theorem dB_leastBare_42 : decode cB_leastBare 42 = .ok (.goto (-29), 3) := by decide +kernel
theorem dB_leastBare_45 : decode cB_leastBare 45 = .ok (.iload_n 2, 1) := by decide +kernel
theorem dB_leastBare_46 : decode cB_leastBare 46 = .ok (.ireturn, 1) := by decide +kernel
theorem dB_liveMinute_0 : decode cB_liveMinute 0 = .ok (.iconst 0, 1) := by decide +kernel
theorem dB_liveMinute_1 : decode cB_liveMinute 1 = .ok (.istore_n 1, 1) := by decide +kernel
theorem dB_liveMinute_2 : decode cB_liveMinute 2 = .ok (.iconst 0, 1) := by decide +kernel
theorem dB_liveMinute_3 : decode cB_liveMinute 3 = .ok (.istore_n 2, 1) := by decide +kernel
theorem dB_liveMinute_4 : decode cB_liveMinute 4 = .ok (.iload_n 2, 1) := by decide +kernel
theorem dB_liveMinute_5 : decode cB_liveMinute 5 = .ok (.bipush 6, 2) := by decide +kernel
theorem dB_liveMinute_7 : decode cB_liveMinute 7 = .ok (.if_icmp .ge 52, 3) := by decide +kernel
theorem dB_liveMinute_10 : decode cB_liveMinute 10 = .ok (.aload_n 0, 1) := by decide +kernel
theorem dB_liveMinute_11 : decode cB_liveMinute 11 = .ok (.getfield 9, 3) := by decide +kernel
theorem dB_liveMinute_14 : decode cB_liveMinute 14 = .ok (.iload_n 2, 1) := by decide +kernel
theorem dB_liveMinute_15 : decode cB_liveMinute 15 = .ok (.iaload, 1) := by decide +kernel
theorem dB_liveMinute_16 : decode cB_liveMinute 16 = .ok (.aload_n 0, 1) := by decide +kernel
theorem dB_liveMinute_17 : decode cB_liveMinute 17 = .ok (.getfield 15, 3) := by decide +kernel
theorem dB_liveMinute_20 : decode cB_liveMinute 20 = .ok (.iload_n 2, 1) := by decide +kernel
theorem dB_liveMinute_21 : decode cB_liveMinute 21 = .ok (.iaload, 1) := by decide +kernel
theorem dB_liveMinute_22 : decode cB_liveMinute 22 = .ok (.isub, 1) := by decide +kernel
theorem dB_liveMinute_23 : decode cB_liveMinute 23 = .ok (.aload_n 0, 1) := by decide +kernel
theorem dB_liveMinute_24 : decode cB_liveMinute 24 = .ok (.iload_n 2, 1) := by decide +kernel
theorem dB_liveMinute_25 : decode cB_liveMinute 25 = .ok (.invokevirtual 100, 3) := by decide +kernel
theorem dB_liveMinute_28 : decode cB_liveMinute 28 = .ok (.isub, 1) := by decide +kernel
theorem dB_liveMinute_29 : decode cB_liveMinute 29 = .ok (.istore_n 3, 1) := by decide +kernel
theorem dB_liveMinute_30 : decode cB_liveMinute 30 = .ok (.iload_n 3, 1) := by decide +kernel
theorem dB_liveMinute_31 : decode cB_liveMinute 31 = .ok (.ifCond .ge 11, 3) := by decide +kernel
theorem dB_liveMinute_34 : decode cB_liveMinute 34 = .ok (.iload_n 1, 1) := by decide +kernel
theorem dB_liveMinute_35 : decode cB_liveMinute 35 = .ok (.aload_n 0, 1) := by decide +kernel
theorem dB_liveMinute_36 : decode cB_liveMinute 36 = .ok (.iload_n 2, 1) := by decide +kernel
theorem dB_liveMinute_37 : decode cB_liveMinute 37 = .ok (.invokevirtual 92, 3) := by decide +kernel
theorem dB_liveMinute_40 : decode cB_liveMinute 40 = .ok (.iadd, 1) := by decide +kernel
theorem dB_liveMinute_41 : decode cB_liveMinute 41 = .ok (.istore_n 1, 1) := by decide +kernel
theorem dB_liveMinute_42 : decode cB_liveMinute 42 = .ok (.aload_n 0, 1) := by decide +kernel
theorem dB_liveMinute_43 : decode cB_liveMinute 43 = .ok (.getfield 9, 3) := by decide +kernel
theorem dB_liveMinute_46 : decode cB_liveMinute 46 = .ok (.iload_n 2, 1) := by decide +kernel
theorem dB_liveMinute_47 : decode cB_liveMinute 47 = .ok (.iconst 0, 1) := by decide +kernel
theorem dB_liveMinute_48 : decode cB_liveMinute 48 = .ok (.iload_n 3, 1) := by decide +kernel
theorem dB_liveMinute_49 : decode cB_liveMinute 49 = .ok (.invokestatic 86, 3) := by decide +kernel
theorem dB_liveMinute_52 : decode cB_liveMinute 52 = .ok (.iastore, 1) := by decide +kernel
theorem dB_liveMinute_53 : decode cB_liveMinute 53 = .ok (.iinc 2 1, 3) := by decide +kernel
theorem dB_liveMinute_56 : decode cB_liveMinute 56 = .ok (.goto (-52), 3) := by decide +kernel
theorem dB_liveMinute_59 : decode cB_liveMinute 59 = .ok (.iconst 0, 1) := by decide +kernel
theorem dB_liveMinute_60 : decode cB_liveMinute 60 = .ok (.istore_n 2, 1) := by decide +kernel
theorem dB_liveMinute_61 : decode cB_liveMinute 61 = .ok (.iload_n 2, 1) := by decide +kernel
theorem dB_liveMinute_62 : decode cB_liveMinute 62 = .ok (.aload_n 0, 1) := by decide +kernel
theorem dB_liveMinute_63 : decode cB_liveMinute 63 = .ok (.getfield 49, 3) := by decide +kernel
theorem dB_liveMinute_66 : decode cB_liveMinute 66 = .ok (.if_icmp .ge 55, 3) := by decide +kernel
theorem dB_liveMinute_69 : decode cB_liveMinute 69 = .ok (.aload_n 0, 1) := by decide +kernel
theorem dB_liveMinute_70 : decode cB_liveMinute 70 = .ok (.getfield 40, 3) := by decide +kernel
theorem dB_liveMinute_73 : decode cB_liveMinute 73 = .ok (.iload_n 2, 1) := by decide +kernel
theorem dB_liveMinute_74 : decode cB_liveMinute 74 = .ok (.iaload, 1) := by decide +kernel
theorem dB_liveMinute_75 : decode cB_liveMinute 75 = .ok (.bipush 6, 2) := by decide +kernel
theorem dB_liveMinute_77 : decode cB_liveMinute 77 = .ok (.if_icmp .ne 38, 3) := by decide +kernel
theorem dB_liveMinute_80 : decode cB_liveMinute 80 = .ok (.iload_n 1, 1) := by decide +kernel
theorem dB_liveMinute_81 : decode cB_liveMinute 81 = .ok (.aload_n 0, 1) := by decide +kernel
theorem dB_liveMinute_82 : decode cB_liveMinute 82 = .ok (.getfield 46, 3) := by decide +kernel
theorem dB_liveMinute_85 : decode cB_liveMinute 85 = .ok (.iload_n 2, 1) := by decide +kernel
theorem dB_liveMinute_86 : decode cB_liveMinute 86 = .ok (.iaload, 1) := by decide +kernel
theorem dB_liveMinute_87 : decode cB_liveMinute 87 = .ok (.ifCond .ne 7, 3) := by decide +kernel
theorem dB_liveMinute_90 : decode cB_liveMinute 90 = .ok (.iconst 1, 1) := by decide +kernel
theorem dB_liveMinute_91 : decode cB_liveMinute 91 = .ok (.goto 4, 3) := by decide +kernel
theorem dB_liveMinute_94 : decode cB_liveMinute 94 = .ok (.iconst 0, 1) := by decide +kernel
theorem dB_liveMinute_95 : decode cB_liveMinute 95 = .ok (.iadd, 1) := by decide +kernel
theorem dB_liveMinute_96 : decode cB_liveMinute 96 = .ok (.istore_n 1, 1) := by decide +kernel
theorem dB_liveMinute_97 : decode cB_liveMinute 97 = .ok (.aload_n 0, 1) := by decide +kernel
theorem dB_liveMinute_98 : decode cB_liveMinute 98 = .ok (.getfield 46, 3) := by decide +kernel
theorem dB_liveMinute_101 : decode cB_liveMinute 101 = .ok (.iload_n 2, 1) := by decide +kernel
theorem dB_liveMinute_102 : decode cB_liveMinute 102 = .ok (.iconst 0, 1) := by decide +kernel
theorem dB_liveMinute_103 : decode cB_liveMinute 103 = .ok (.aload_n 0, 1) := by decide +kernel
theorem dB_liveMinute_104 : decode cB_liveMinute 104 = .ok (.getfield 46, 3) := by decide +kernel
theorem dB_liveMinute_107 : decode cB_liveMinute 107 = .ok (.iload_n 2, 1) := by decide +kernel
theorem dB_liveMinute_108 : decode cB_liveMinute 108 = .ok (.iaload, 1) := by decide +kernel
theorem dB_liveMinute_109 : decode cB_liveMinute 109 = .ok (.iconst 1, 1) := by decide +kernel
theorem dB_liveMinute_110 : decode cB_liveMinute 110 = .ok (.isub, 1) := by decide +kernel
theorem dB_liveMinute_111 : decode cB_liveMinute 111 = .ok (.invokestatic 86, 3) := by decide +kernel
theorem dB_liveMinute_114 : decode cB_liveMinute 114 = .ok (.iastore, 1) := by decide +kernel
theorem dB_liveMinute_115 : decode cB_liveMinute 115 = .ok (.iinc 2 1, 3) := by decide +kernel
theorem dB_liveMinute_118 : decode cB_liveMinute 118 = .ok (.goto (-57), 3) := by decide +kernel
theorem dB_liveMinute_121 : decode cB_liveMinute 121 = .ok (.aload_n 0, 1) := by decide +kernel
theorem dB_liveMinute_122 : decode cB_liveMinute 122 = .ok (.dup, 1) := by decide +kernel
theorem dB_liveMinute_123 : decode cB_liveMinute 123 = .ok (.getfield 55, 3) := by decide +kernel
theorem dB_liveMinute_126 : decode cB_liveMinute 126 = .ok (.iconst 1, 1) := by decide +kernel
theorem dB_liveMinute_127 : decode cB_liveMinute 127 = .ok (.iadd, 1) := by decide +kernel
theorem dB_liveMinute_128 : decode cB_liveMinute 128 = .ok (.putfield 55, 3) := by decide +kernel
theorem dB_liveMinute_131 : decode cB_liveMinute 131 = .ok (.aload_n 0, 1) := by decide +kernel
theorem dB_liveMinute_132 : decode cB_liveMinute 132 = .ok (.dup, 1) := by decide +kernel
theorem dB_liveMinute_133 : decode cB_liveMinute 133 = .ok (.getfield 58, 3) := by decide +kernel
theorem dB_liveMinute_136 : decode cB_liveMinute 136 = .ok (.iload_n 1, 1) := by decide +kernel
theorem dB_liveMinute_137 : decode cB_liveMinute 137 = .ok (.iadd, 1) := by decide +kernel
theorem dB_liveMinute_138 : decode cB_liveMinute 138 = .ok (.putfield 58, 3) := by decide +kernel
theorem dB_liveMinute_141 : decode cB_liveMinute 141 = .ok (.iload_n 1, 1) := by decide +kernel
theorem dB_liveMinute_142 : decode cB_liveMinute 142 = .ok (.ireturn, 1) := by decide +kernel
theorem dB_liveMinutes_0 : decode cB_liveMinutes 0 = .ok (.aload_n 0, 1) := by decide +kernel
theorem dB_liveMinutes_1 : decode cB_liveMinutes 1 = .ok (.getfield 58, 3) := by decide +kernel
theorem dB_liveMinutes_4 : decode cB_liveMinutes 4 = .ok (.istore_n 2, 1) := by decide +kernel
theorem dB_liveMinutes_5 : decode cB_liveMinutes 5 = .ok (.iconst 0, 1) := by decide +kernel
theorem dB_liveMinutes_6 : decode cB_liveMinutes 6 = .ok (.istore_n 3, 1) := by decide +kernel
theorem dB_liveMinutes_7 : decode cB_liveMinutes 7 = .ok (.iload_n 3, 1) := by decide +kernel
theorem dB_liveMinutes_8 : decode cB_liveMinutes 8 = .ok (.iload_n 1, 1) := by decide +kernel
theorem dB_liveMinutes_9 : decode cB_liveMinutes 9 = .ok (.if_icmp .ge 14, 3) := by decide +kernel
theorem dB_liveMinutes_12 : decode cB_liveMinutes 12 = .ok (.aload_n 0, 1) := by decide +kernel
theorem dB_liveMinutes_13 : decode cB_liveMinutes 13 = .ok (.invokevirtual 103, 3) := by decide +kernel
theorem dB_liveMinutes_16 : decode cB_liveMinutes 16 = .ok (.pop, 1) := by decide +kernel
theorem dB_liveMinutes_17 : decode cB_liveMinutes 17 = .ok (.iinc 3 1, 3) := by decide +kernel
theorem dB_liveMinutes_20 : decode cB_liveMinutes 20 = .ok (.goto (-13), 3) := by decide +kernel
theorem dB_liveMinutes_23 : decode cB_liveMinutes 23 = .ok (.aload_n 0, 1) := by decide +kernel
theorem dB_liveMinutes_24 : decode cB_liveMinutes 24 = .ok (.getfield 58, 3) := by decide +kernel
theorem dB_liveMinutes_27 : decode cB_liveMinutes 27 = .ok (.iload_n 2, 1) := by decide +kernel
theorem dB_liveMinutes_28 : decode cB_liveMinutes 28 = .ok (.isub, 1) := by decide +kernel
theorem dB_liveMinutes_29 : decode cB_liveMinutes 29 = .ok (.ireturn, 1) := by decide +kernel
theorem dB_peopleAt_0 : decode cB_peopleAt 0 = .ok (.iconst 0, 1) := by decide +kernel
theorem dB_peopleAt_1 : decode cB_peopleAt 1 = .ok (.istore_n 2, 1) := by decide +kernel
theorem dB_peopleAt_2 : decode cB_peopleAt 2 = .ok (.iconst 0, 1) := by decide +kernel
theorem dB_peopleAt_3 : decode cB_peopleAt 3 = .ok (.istore_n 3, 1) := by decide +kernel
theorem dB_peopleAt_4 : decode cB_peopleAt 4 = .ok (.iload_n 3, 1) := by decide +kernel
theorem dB_peopleAt_5 : decode cB_peopleAt 5 = .ok (.aload_n 0, 1) := by decide +kernel
theorem dB_peopleAt_6 : decode cB_peopleAt 6 = .ok (.getfield 49, 3) := by decide +kernel
theorem dB_peopleAt_9 : decode cB_peopleAt 9 = .ok (.if_icmp .ge 22, 3) := by decide +kernel
theorem dB_peopleAt_12 : decode cB_peopleAt 12 = .ok (.aload_n 0, 1) := by decide +kernel
theorem dB_peopleAt_13 : decode cB_peopleAt 13 = .ok (.getfield 40, 3) := by decide +kernel
theorem dB_peopleAt_16 : decode cB_peopleAt 16 = .ok (.iload_n 3, 1) := by decide +kernel
theorem dB_peopleAt_17 : decode cB_peopleAt 17 = .ok (.iaload, 1) := by decide +kernel
theorem dB_peopleAt_18 : decode cB_peopleAt 18 = .ok (.iload_n 1, 1) := by decide +kernel
theorem dB_peopleAt_19 : decode cB_peopleAt 19 = .ok (.if_icmp .ne 6, 3) := by decide +kernel
theorem dB_peopleAt_22 : decode cB_peopleAt 22 = .ok (.iinc 2 1, 3) := by decide +kernel
theorem dB_peopleAt_25 : decode cB_peopleAt 25 = .ok (.iinc 3 1, 3) := by decide +kernel
theorem dB_peopleAt_28 : decode cB_peopleAt 28 = .ok (.goto (-24), 3) := by decide +kernel
theorem dB_peopleAt_31 : decode cB_peopleAt 31 = .ok (.iload_n 2, 1) := by decide +kernel
theorem dB_peopleAt_32 : decode cB_peopleAt 32 = .ok (.ireturn, 1) := by decide +kernel
theorem dB_peopleOfFit_0 : decode cB_peopleOfFit 0 = .ok (.iconst 0, 1) := by decide +kernel
theorem dB_peopleOfFit_1 : decode cB_peopleOfFit 1 = .ok (.istore_n 3, 1) := by decide +kernel
theorem dB_peopleOfFit_2 : decode cB_peopleOfFit 2 = .ok (.iconst 0, 1) := by decide +kernel
theorem dB_peopleOfFit_3 : decode cB_peopleOfFit 3 = .ok (.istore 4, 2) := by decide +kernel
theorem dB_peopleOfFit_5 : decode cB_peopleOfFit 5 = .ok (.iload 4, 2) := by decide +kernel
theorem dB_peopleOfFit_7 : decode cB_peopleOfFit 7 = .ok (.aload_n 0, 1) := by decide +kernel
theorem dB_peopleOfFit_8 : decode cB_peopleOfFit 8 = .ok (.getfield 49, 3) := by decide +kernel
theorem dB_peopleOfFit_11 : decode cB_peopleOfFit 11 = .ok (.if_icmp .ge 32, 3) := by decide +kernel
theorem dB_peopleOfFit_14 : decode cB_peopleOfFit 14 = .ok (.aload_n 0, 1) := by decide +kernel
theorem dB_peopleOfFit_15 : decode cB_peopleOfFit 15 = .ok (.getfield 43, 3) := by decide +kernel
theorem dB_peopleOfFit_18 : decode cB_peopleOfFit 18 = .ok (.iload 4, 2) := by decide +kernel
theorem dB_peopleOfFit_20 : decode cB_peopleOfFit 20 = .ok (.iaload, 1) := by decide +kernel
theorem dB_peopleOfFit_21 : decode cB_peopleOfFit 21 = .ok (.iload_n 1, 1) := by decide +kernel
theorem dB_peopleOfFit_22 : decode cB_peopleOfFit 22 = .ok (.if_icmp .ne 15, 3) := by decide +kernel
theorem dB_peopleOfFit_25 : decode cB_peopleOfFit 25 = .ok (.iload_n 2, 1) := by decide +kernel
theorem dB_peopleOfFit_26 : decode cB_peopleOfFit 26 = .ok (.iload 4, 2) := by decide +kernel
theorem dB_peopleOfFit_28 : decode cB_peopleOfFit 28 = .ok (.ishr, 1) := by decide +kernel
theorem dB_peopleOfFit_29 : decode cB_peopleOfFit 29 = .ok (.iconst 1, 1) := by decide +kernel
theorem dB_peopleOfFit_30 : decode cB_peopleOfFit 30 = .ok (.iand, 1) := by decide +kernel
theorem dB_peopleOfFit_31 : decode cB_peopleOfFit 31 = .ok (.ifCond .ne 6, 3) := by decide +kernel
theorem dB_peopleOfFit_34 : decode cB_peopleOfFit 34 = .ok (.iinc 3 1, 3) := by decide +kernel
theorem dB_peopleOfFit_37 : decode cB_peopleOfFit 37 = .ok (.iinc 4 1, 3) := by decide +kernel
theorem dB_peopleOfFit_40 : decode cB_peopleOfFit 40 = .ok (.goto (-35), 3) := by decide +kernel
theorem dB_peopleOfFit_43 : decode cB_peopleOfFit 43 = .ok (.iload_n 3, 1) := by decide +kernel
theorem dB_peopleOfFit_44 : decode cB_peopleOfFit 44 = .ok (.ireturn, 1) := by decide +kernel
theorem dB_suitsAreEnoughBut_0 : decode cB_suitsAreEnoughBut 0 = .ok (.iconst 0, 1) := by decide +kernel
theorem dB_suitsAreEnoughBut_1 : decode cB_suitsAreEnoughBut 1 = .ok (.istore_n 2, 1) := by decide +kernel
theorem dB_suitsAreEnoughBut_2 : decode cB_suitsAreEnoughBut 2 = .ok (.iconst 1, 1) := by decide +kernel
theorem dB_suitsAreEnoughBut_3 : decode cB_suitsAreEnoughBut 3 = .ok (.istore_n 3, 1) := by decide +kernel
theorem dB_suitsAreEnoughBut_4 : decode cB_suitsAreEnoughBut 4 = .ok (.iload_n 3, 1) := by decide +kernel
theorem dB_suitsAreEnoughBut_5 : decode cB_suitsAreEnoughBut 5 = .ok (.iconst 5, 1) := by decide +kernel
theorem dB_suitsAreEnoughBut_6 : decode cB_suitsAreEnoughBut 6 = .ok (.if_icmp .gt 40, 3) := by decide +kernel
theorem dB_suitsAreEnoughBut_9 : decode cB_suitsAreEnoughBut 9 = .ok (.aload_n 0, 1) := by decide +kernel
theorem dB_suitsAreEnoughBut_10 : decode cB_suitsAreEnoughBut 10 = .ok (.getfield 52, 3) := by decide +kernel
theorem dB_suitsAreEnoughBut_13 : decode cB_suitsAreEnoughBut 13 = .ok (.iload_n 3, 1) := by decide +kernel
theorem dB_suitsAreEnoughBut_14 : decode cB_suitsAreEnoughBut 14 = .ok (.iaload, 1) := by decide +kernel
theorem dB_suitsAreEnoughBut_15 : decode cB_suitsAreEnoughBut 15 = .ok (.iload_n 2, 1) := by decide +kernel
theorem dB_suitsAreEnoughBut_16 : decode cB_suitsAreEnoughBut 16 = .ok (.isub, 1) := by decide +kernel
theorem dB_suitsAreEnoughBut_17 : decode cB_suitsAreEnoughBut 17 = .ok (.istore 4, 2) := by decide +kernel
theorem dB_suitsAreEnoughBut_19 : decode cB_suitsAreEnoughBut 19 = .ok (.iload 4, 2) := by decide +kernel
theorem dB_suitsAreEnoughBut_21 : decode cB_suitsAreEnoughBut 21 = .ok (.ifCond .ge 5, 3) := by decide +kernel
theorem dB_suitsAreEnoughBut_24 : decode cB_suitsAreEnoughBut 24 = .ok (.iconst 0, 1) := by decide +kernel
theorem dB_suitsAreEnoughBut_25 : decode cB_suitsAreEnoughBut 25 = .ok (.ireturn, 1) := by decide +kernel
theorem dB_suitsAreEnoughBut_26 : decode cB_suitsAreEnoughBut 26 = .ok (.iconst 0, 1) := by decide +kernel
theorem dB_suitsAreEnoughBut_27 : decode cB_suitsAreEnoughBut 27 = .ok (.aload_n 0, 1) := by decide +kernel
theorem dB_suitsAreEnoughBut_28 : decode cB_suitsAreEnoughBut 28 = .ok (.iload_n 3, 1) := by decide +kernel
theorem dB_suitsAreEnoughBut_29 : decode cB_suitsAreEnoughBut 29 = .ok (.iload_n 1, 1) := by decide +kernel
theorem dB_suitsAreEnoughBut_30 : decode cB_suitsAreEnoughBut 30 = .ok (.invokevirtual 125, 3) := by decide +kernel
theorem dB_suitsAreEnoughBut_33 : decode cB_suitsAreEnoughBut 33 = .ok (.iload 4, 2) := by decide +kernel
theorem dB_suitsAreEnoughBut_35 : decode cB_suitsAreEnoughBut 35 = .ok (.isub, 1) := by decide +kernel
theorem dB_suitsAreEnoughBut_36 : decode cB_suitsAreEnoughBut 36 = .ok (.invokestatic 86, 3) := by decide +kernel
theorem dB_suitsAreEnoughBut_39 : decode cB_suitsAreEnoughBut 39 = .ok (.istore_n 2, 1) := by decide +kernel
theorem dB_suitsAreEnoughBut_40 : decode cB_suitsAreEnoughBut 40 = .ok (.iinc 3 1, 3) := by decide +kernel
theorem dB_suitsAreEnoughBut_43 : decode cB_suitsAreEnoughBut 43 = .ok (.goto (-39), 3) := by decide +kernel
theorem dB_suitsAreEnoughBut_46 : decode cB_suitsAreEnoughBut 46 = .ok (.iload_n 2, 1) := by decide +kernel
theorem dB_suitsAreEnoughBut_47 : decode cB_suitsAreEnoughBut 47 = .ok (.ifCond .ne 7, 3) := by decide +kernel
theorem dB_suitsAreEnoughBut_50 : decode cB_suitsAreEnoughBut 50 = .ok (.iconst 1, 1) := by decide +kernel
theorem dB_suitsAreEnoughBut_51 : decode cB_suitsAreEnoughBut 51 = .ok (.goto 4, 3) := by decide +kernel
theorem dB_suitsAreEnoughBut_54 : decode cB_suitsAreEnoughBut 54 = .ok (.iconst 0, 1) := by decide +kernel
theorem dB_suitsAreEnoughBut_55 : decode cB_suitsAreEnoughBut 55 = .ok (.ireturn, 1) := by decide +kernel
theorem dB_tellAir_0 : decode cB_tellAir 0 = .ok (.iload_n 1, 1) := by decide +kernel
theorem dB_tellAir_1 : decode cB_tellAir 1 = .ok (.invokestatic 73, 3) := by decide +kernel
theorem dB_tellAir_4 : decode cB_tellAir 4 = .ok (.ifCond .eq 14, 3) := by decide +kernel
theorem dB_tellAir_7 : decode cB_tellAir 7 = .ok (.iload_n 2, 1) := by decide +kernel
theorem dB_tellAir_8 : decode cB_tellAir 8 = .ok (.ifCond .lt 10, 3) := by decide +kernel
theorem dB_tellAir_11 : decode cB_tellAir 11 = .ok (.iload_n 2, 1) := by decide +kernel
theorem dB_tellAir_12 : decode cB_tellAir 12 = .ok (.sipush 999, 3) := by decide +kernel
theorem dB_tellAir_15 : decode cB_tellAir 15 = .ok (.if_icmp .le 5, 3) := by decide +kernel
theorem dB_tellAir_18 : decode cB_tellAir 18 = .ok (.iconst 0, 1) := by decide +kernel
theorem dB_tellAir_19 : decode cB_tellAir 19 = .ok (.ireturn, 1) := by decide +kernel
theorem dB_tellAir_20 : decode cB_tellAir 20 = .ok (.aload_n 0, 1) := by decide +kernel
theorem dB_tellAir_21 : decode cB_tellAir 21 = .ok (.getfield 9, 3) := by decide +kernel
theorem dB_tellAir_24 : decode cB_tellAir 24 = .ok (.iload_n 1, 1) := by decide +kernel
theorem dB_tellAir_25 : decode cB_tellAir 25 = .ok (.iload_n 2, 1) := by decide +kernel
theorem dB_tellAir_26 : decode cB_tellAir 26 = .ok (.iastore, 1) := by decide +kernel
theorem dB_tellAir_27 : decode cB_tellAir 27 = .ok (.iconst 1, 1) := by decide +kernel
theorem dB_tellAir_28 : decode cB_tellAir 28 = .ok (.ireturn, 1) := by decide +kernel
theorem dB_tellLeak_0 : decode cB_tellLeak 0 = .ok (.iload_n 1, 1) := by decide +kernel
theorem dB_tellLeak_1 : decode cB_tellLeak 1 = .ok (.invokestatic 73, 3) := by decide +kernel
theorem dB_tellLeak_4 : decode cB_tellLeak 4 = .ok (.ifCond .eq 13, 3) := by decide +kernel
theorem dB_tellLeak_7 : decode cB_tellLeak 7 = .ok (.iload_n 2, 1) := by decide +kernel
theorem dB_tellLeak_8 : decode cB_tellLeak 8 = .ok (.ifCond .lt 9, 3) := by decide +kernel
theorem dB_tellLeak_11 : decode cB_tellLeak 11 = .ok (.iload_n 2, 1) := by decide +kernel
theorem dB_tellLeak_12 : decode cB_tellLeak 12 = .ok (.bipush 9, 2) := by decide +kernel
theorem dB_tellLeak_14 : decode cB_tellLeak 14 = .ok (.if_icmp .le 5, 3) := by decide +kernel
theorem dB_tellLeak_17 : decode cB_tellLeak 17 = .ok (.iconst 0, 1) := by decide +kernel
theorem dB_tellLeak_18 : decode cB_tellLeak 18 = .ok (.ireturn, 1) := by decide +kernel
theorem dB_tellLeak_19 : decode cB_tellLeak 19 = .ok (.aload_n 0, 1) := by decide +kernel
theorem dB_tellLeak_20 : decode cB_tellLeak 20 = .ok (.getfield 15, 3) := by decide +kernel
theorem dB_tellLeak_23 : decode cB_tellLeak 23 = .ok (.iload_n 1, 1) := by decide +kernel
theorem dB_tellLeak_24 : decode cB_tellLeak 24 = .ok (.iload_n 2, 1) := by decide +kernel
theorem dB_tellLeak_25 : decode cB_tellLeak 25 = .ok (.iastore, 1) := by decide +kernel
theorem dB_tellLeak_26 : decode cB_tellLeak 26 = .ok (.iconst 1, 1) := by decide +kernel
theorem dB_tellLeak_27 : decode cB_tellLeak 27 = .ok (.ireturn, 1) := by decide +kernel
theorem dB_tellLock_0 : decode cB_tellLock 0 = .ok (.iload_n 1, 1) := by decide +kernel
theorem dB_tellLock_1 : decode cB_tellLock 1 = .ok (.invokestatic 77, 3) := by decide +kernel
theorem dB_tellLock_4 : decode cB_tellLock 4 = .ok (.ifCond .eq 15, 3) := by decide +kernel
theorem dB_tellLock_7 : decode cB_tellLock 7 = .ok (.iload_n 2, 1) := by decide +kernel
theorem dB_tellLock_8 : decode cB_tellLock 8 = .ok (.invokestatic 77, 3) := by decide +kernel
theorem dB_tellLock_11 : decode cB_tellLock 11 = .ok (.ifCond .eq 8, 3) := by decide +kernel
theorem dB_tellLock_14 : decode cB_tellLock 14 = .ok (.iload_n 1, 1) := by decide +kernel
theorem dB_tellLock_15 : decode cB_tellLock 15 = .ok (.iload_n 2, 1) := by decide +kernel
theorem dB_tellLock_16 : decode cB_tellLock 16 = .ok (.if_icmp .ne 5, 3) := by decide +kernel
theorem dB_tellLock_19 : decode cB_tellLock 19 = .ok (.iconst 0, 1) := by decide +kernel
theorem dB_tellLock_20 : decode cB_tellLock 20 = .ok (.ireturn, 1) := by decide +kernel
theorem dB_tellLock_21 : decode cB_tellLock 21 = .ok (.iload_n 3, 1) := by decide +kernel
theorem dB_tellLock_22 : decode cB_tellLock 22 = .ok (.ifCond .lt 18, 3) := by decide +kernel
theorem dB_tellLock_25 : decode cB_tellLock 25 = .ok (.iload 4, 2) := by decide +kernel
theorem dB_tellLock_27 : decode cB_tellLock 27 = .ok (.iconst 1, 1) := by decide +kernel
theorem dB_tellLock_28 : decode cB_tellLock 28 = .ok (.if_icmp .lt 12, 3) := by decide +kernel
theorem dB_tellLock_31 : decode cB_tellLock 31 = .ok (.aload_n 0, 1) := by decide +kernel
theorem dB_tellLock_32 : decode cB_tellLock 32 = .ok (.getfield 33, 3) := by decide +kernel
theorem dB_tellLock_35 : decode cB_tellLock 35 = .ok (.bipush 7, 2) := by decide +kernel
theorem dB_tellLock_37 : decode cB_tellLock 37 = .ok (.if_icmp .lt 5, 3) := by decide +kernel
theorem dB_tellLock_40 : decode cB_tellLock 40 = .ok (.iconst 0, 1) := by decide +kernel
theorem dB_tellLock_41 : decode cB_tellLock 41 = .ok (.ireturn, 1) := by decide +kernel
theorem dB_tellLock_42 : decode cB_tellLock 42 = .ok (.aload_n 0, 1) := by decide +kernel
theorem dB_tellLock_43 : decode cB_tellLock 43 = .ok (.getfield 18, 3) := by decide +kernel
theorem dB_tellLock_46 : decode cB_tellLock 46 = .ok (.aload_n 0, 1) := by decide +kernel
theorem dB_tellLock_47 : decode cB_tellLock 47 = .ok (.getfield 33, 3) := by decide +kernel
theorem dB_tellLock_50 : decode cB_tellLock 50 = .ok (.iload_n 1, 1) := by decide +kernel
theorem dB_tellLock_51 : decode cB_tellLock 51 = .ok (.iload_n 2, 1) := by decide +kernel
theorem dB_tellLock_52 : decode cB_tellLock 52 = .ok (.invokestatic 80, 3) := by decide +kernel
theorem dB_tellLock_55 : decode cB_tellLock 55 = .ok (.iastore, 1) := by decide +kernel
theorem dB_tellLock_56 : decode cB_tellLock 56 = .ok (.aload_n 0, 1) := by decide +kernel
theorem dB_tellLock_57 : decode cB_tellLock 57 = .ok (.getfield 21, 3) := by decide +kernel
theorem dB_tellLock_60 : decode cB_tellLock 60 = .ok (.aload_n 0, 1) := by decide +kernel
theorem dB_tellLock_61 : decode cB_tellLock 61 = .ok (.getfield 33, 3) := by decide +kernel
theorem dB_tellLock_64 : decode cB_tellLock 64 = .ok (.iload_n 1, 1) := by decide +kernel
theorem dB_tellLock_65 : decode cB_tellLock 65 = .ok (.iload_n 2, 1) := by decide +kernel
theorem dB_tellLock_66 : decode cB_tellLock 66 = .ok (.invokestatic 86, 3) := by decide +kernel
theorem dB_tellLock_69 : decode cB_tellLock 69 = .ok (.iastore, 1) := by decide +kernel
theorem dB_tellLock_70 : decode cB_tellLock 70 = .ok (.aload_n 0, 1) := by decide +kernel
theorem dB_tellLock_71 : decode cB_tellLock 71 = .ok (.getfield 24, 3) := by decide +kernel
theorem dB_tellLock_74 : decode cB_tellLock 74 = .ok (.aload_n 0, 1) := by decide +kernel
theorem dB_tellLock_75 : decode cB_tellLock 75 = .ok (.getfield 33, 3) := by decide +kernel
theorem dB_tellLock_78 : decode cB_tellLock 78 = .ok (.iload_n 3, 1) := by decide +kernel
theorem dB_tellLock_79 : decode cB_tellLock 79 = .ok (.iastore, 1) := by decide +kernel
theorem dB_tellLock_80 : decode cB_tellLock 80 = .ok (.aload_n 0, 1) := by decide +kernel
theorem dB_tellLock_81 : decode cB_tellLock 81 = .ok (.getfield 27, 3) := by decide +kernel
theorem dB_tellLock_84 : decode cB_tellLock 84 = .ok (.aload_n 0, 1) := by decide +kernel
theorem dB_tellLock_85 : decode cB_tellLock 85 = .ok (.getfield 33, 3) := by decide +kernel
theorem dB_tellLock_88 : decode cB_tellLock 88 = .ok (.iload 4, 2) := by decide +kernel
theorem dB_tellLock_90 : decode cB_tellLock 90 = .ok (.iastore, 1) := by decide +kernel
theorem dB_tellLock_91 : decode cB_tellLock 91 = .ok (.aload_n 0, 1) := by decide +kernel
theorem dB_tellLock_92 : decode cB_tellLock 92 = .ok (.getfield 30, 3) := by decide +kernel
theorem dB_tellLock_95 : decode cB_tellLock 95 = .ok (.aload_n 0, 1) := by decide +kernel
theorem dB_tellLock_96 : decode cB_tellLock 96 = .ok (.getfield 33, 3) := by decide +kernel
theorem dB_tellLock_99 : decode cB_tellLock 99 = .ok (.iconst 0, 1) := by decide +kernel
theorem dB_tellLock_100 : decode cB_tellLock 100 = .ok (.iastore, 1) := by decide +kernel
theorem dB_tellLock_101 : decode cB_tellLock 101 = .ok (.aload_n 0, 1) := by decide +kernel
theorem dB_tellLock_102 : decode cB_tellLock 102 = .ok (.dup, 1) := by decide +kernel
theorem dB_tellLock_103 : decode cB_tellLock 103 = .ok (.getfield 33, 3) := by decide +kernel
theorem dB_tellLock_106 : decode cB_tellLock 106 = .ok (.iconst 1, 1) := by decide +kernel
theorem dB_tellLock_107 : decode cB_tellLock 107 = .ok (.iadd, 1) := by decide +kernel
theorem dB_tellLock_108 : decode cB_tellLock 108 = .ok (.putfield 33, 3) := by decide +kernel
theorem dB_tellLock_111 : decode cB_tellLock 111 = .ok (.iconst 1, 1) := by decide +kernel
theorem dB_tellLock_112 : decode cB_tellLock 112 = .ok (.ireturn, 1) := by decide +kernel
theorem dB_tellPerson_0 : decode cB_tellPerson 0 = .ok (.iload_n 1, 1) := by decide +kernel
theorem dB_tellPerson_1 : decode cB_tellPerson 1 = .ok (.ifCond .lt 20, 3) := by decide +kernel
theorem dB_tellPerson_4 : decode cB_tellPerson 4 = .ok (.iload_n 2, 1) := by decide +kernel
theorem dB_tellPerson_5 : decode cB_tellPerson 5 = .ok (.invokestatic 77, 3) := by decide +kernel
theorem dB_tellPerson_8 : decode cB_tellPerson 8 = .ok (.ifCond .eq 13, 3) := by decide +kernel
theorem dB_tellPerson_11 : decode cB_tellPerson 11 = .ok (.iload_n 3, 1) := by decide +kernel
theorem dB_tellPerson_12 : decode cB_tellPerson 12 = .ok (.iconst 1, 1) := by decide +kernel
theorem dB_tellPerson_13 : decode cB_tellPerson 13 = .ok (.if_icmp .lt 8, 3) := by decide +kernel
theorem dB_tellPerson_16 : decode cB_tellPerson 16 = .ok (.iload_n 3, 1) := by decide +kernel
theorem dB_tellPerson_17 : decode cB_tellPerson 17 = .ok (.iconst 5, 1) := by decide +kernel
theorem dB_tellPerson_18 : decode cB_tellPerson 18 = .ok (.if_icmp .le 5, 3) := by decide +kernel
theorem dB_tellPerson_21 : decode cB_tellPerson 21 = .ok (.iconst 0, 1) := by decide +kernel
theorem dB_tellPerson_22 : decode cB_tellPerson 22 = .ok (.ireturn, 1) := by decide +kernel
theorem dB_tellPerson_23 : decode cB_tellPerson 23 = .ok (.iload 4, 2) := by decide +kernel
theorem dB_tellPerson_25 : decode cB_tellPerson 25 = .ok (.ifCond .lt 11, 3) := by decide +kernel
theorem dB_tellPerson_28 : decode cB_tellPerson 28 = .ok (.aload_n 0, 1) := by decide +kernel
theorem dB_tellPerson_29 : decode cB_tellPerson 29 = .ok (.getfield 49, 3) := by decide +kernel
theorem dB_tellPerson_32 : decode cB_tellPerson 32 = .ok (.iconst 5, 1) := by decide +kernel
theorem dB_tellPerson_33 : decode cB_tellPerson 33 = .ok (.if_icmp .lt 5, 3) := by decide +kernel
theorem dB_tellPerson_36 : decode cB_tellPerson 36 = .ok (.iconst 0, 1) := by decide +kernel
theorem dB_tellPerson_37 : decode cB_tellPerson 37 = .ok (.ireturn, 1) := by decide +kernel
theorem dB_tellPerson_38 : decode cB_tellPerson 38 = .ok (.aload_n 0, 1) := by decide +kernel
theorem dB_tellPerson_39 : decode cB_tellPerson 39 = .ok (.getfield 37, 3) := by decide +kernel
theorem dB_tellPerson_42 : decode cB_tellPerson 42 = .ok (.aload_n 0, 1) := by decide +kernel
theorem dB_tellPerson_43 : decode cB_tellPerson 43 = .ok (.getfield 49, 3) := by decide +kernel
theorem dB_tellPerson_46 : decode cB_tellPerson 46 = .ok (.iload_n 1, 1) := by decide +kernel
theorem dB_tellPerson_47 : decode cB_tellPerson 47 = .ok (.iastore, 1) := by decide +kernel
theorem dB_tellPerson_48 : decode cB_tellPerson 48 = .ok (.aload_n 0, 1) := by decide +kernel
theorem dB_tellPerson_49 : decode cB_tellPerson 49 = .ok (.getfield 40, 3) := by decide +kernel
theorem dB_tellPerson_52 : decode cB_tellPerson 52 = .ok (.aload_n 0, 1) := by decide +kernel
theorem dB_tellPerson_53 : decode cB_tellPerson 53 = .ok (.getfield 49, 3) := by decide +kernel
theorem dB_tellPerson_56 : decode cB_tellPerson 56 = .ok (.iload_n 2, 1) := by decide +kernel
theorem dB_tellPerson_57 : decode cB_tellPerson 57 = .ok (.iastore, 1) := by decide +kernel
theorem dB_tellPerson_58 : decode cB_tellPerson 58 = .ok (.aload_n 0, 1) := by decide +kernel
theorem dB_tellPerson_59 : decode cB_tellPerson 59 = .ok (.getfield 43, 3) := by decide +kernel
theorem dB_tellPerson_62 : decode cB_tellPerson 62 = .ok (.aload_n 0, 1) := by decide +kernel
theorem dB_tellPerson_63 : decode cB_tellPerson 63 = .ok (.getfield 49, 3) := by decide +kernel
theorem dB_tellPerson_66 : decode cB_tellPerson 66 = .ok (.iload_n 3, 1) := by decide +kernel
theorem dB_tellPerson_67 : decode cB_tellPerson 67 = .ok (.iastore, 1) := by decide +kernel
theorem dB_tellPerson_68 : decode cB_tellPerson 68 = .ok (.aload_n 0, 1) := by decide +kernel
theorem dB_tellPerson_69 : decode cB_tellPerson 69 = .ok (.getfield 46, 3) := by decide +kernel
theorem dB_tellPerson_72 : decode cB_tellPerson 72 = .ok (.aload_n 0, 1) := by decide +kernel
theorem dB_tellPerson_73 : decode cB_tellPerson 73 = .ok (.getfield 49, 3) := by decide +kernel
theorem dB_tellPerson_76 : decode cB_tellPerson 76 = .ok (.iload 4, 2) := by decide +kernel
theorem dB_tellPerson_78 : decode cB_tellPerson 78 = .ok (.iastore, 1) := by decide +kernel
theorem dB_tellPerson_79 : decode cB_tellPerson 79 = .ok (.aload_n 0, 1) := by decide +kernel
theorem dB_tellPerson_80 : decode cB_tellPerson 80 = .ok (.dup, 1) := by decide +kernel
theorem dB_tellPerson_81 : decode cB_tellPerson 81 = .ok (.getfield 49, 3) := by decide +kernel
theorem dB_tellPerson_84 : decode cB_tellPerson 84 = .ok (.iconst 1, 1) := by decide +kernel
theorem dB_tellPerson_85 : decode cB_tellPerson 85 = .ok (.iadd, 1) := by decide +kernel
theorem dB_tellPerson_86 : decode cB_tellPerson 86 = .ok (.putfield 49, 3) := by decide +kernel
theorem dB_tellPerson_89 : decode cB_tellPerson 89 = .ok (.iconst 1, 1) := by decide +kernel
theorem dB_tellPerson_90 : decode cB_tellPerson 90 = .ok (.ireturn, 1) := by decide +kernel
theorem dB_tellSuits_0 : decode cB_tellSuits 0 = .ok (.iload_n 1, 1) := by decide +kernel
theorem dB_tellSuits_1 : decode cB_tellSuits 1 = .ok (.iconst 1, 1) := by decide +kernel
theorem dB_tellSuits_2 : decode cB_tellSuits 2 = .ok (.if_icmp .lt 17, 3) := by decide +kernel
theorem dB_tellSuits_5 : decode cB_tellSuits 5 = .ok (.iload_n 1, 1) := by decide +kernel
theorem dB_tellSuits_6 : decode cB_tellSuits 6 = .ok (.iconst 5, 1) := by decide +kernel
theorem dB_tellSuits_7 : decode cB_tellSuits 7 = .ok (.if_icmp .gt 12, 3) := by decide +kernel
theorem dB_tellSuits_10 : decode cB_tellSuits 10 = .ok (.iload_n 2, 1) := by decide +kernel
theorem dB_tellSuits_11 : decode cB_tellSuits 11 = .ok (.ifCond .lt 8, 3) := by decide +kernel
theorem dB_tellSuits_14 : decode cB_tellSuits 14 = .ok (.iload_n 2, 1) := by decide +kernel
theorem dB_tellSuits_15 : decode cB_tellSuits 15 = .ok (.iconst 5, 1) := by decide +kernel
theorem dB_tellSuits_16 : decode cB_tellSuits 16 = .ok (.if_icmp .le 5, 3) := by decide +kernel
theorem dB_tellSuits_19 : decode cB_tellSuits 19 = .ok (.iconst 0, 1) := by decide +kernel
theorem dB_tellSuits_20 : decode cB_tellSuits 20 = .ok (.ireturn, 1) := by decide +kernel
theorem dB_tellSuits_21 : decode cB_tellSuits 21 = .ok (.aload_n 0, 1) := by decide +kernel
theorem dB_tellSuits_22 : decode cB_tellSuits 22 = .ok (.getfield 52, 3) := by decide +kernel
theorem dB_tellSuits_25 : decode cB_tellSuits 25 = .ok (.iload_n 1, 1) := by decide +kernel
theorem dB_tellSuits_26 : decode cB_tellSuits 26 = .ok (.iload_n 2, 1) := by decide +kernel
theorem dB_tellSuits_27 : decode cB_tellSuits 27 = .ok (.iastore, 1) := by decide +kernel
theorem dB_tellSuits_28 : decode cB_tellSuits 28 = .ok (.iconst 1, 1) := by decide +kernel
theorem dB_tellSuits_29 : decode cB_tellSuits 29 = .ok (.ireturn, 1) := by decide +kernel
end
section
/-! what stands at each place of the code -/
theorem dT_init_0 : decode cT_init 0 = .ok (.aload_n 0, 1) := by decide +kernel
theorem dT_init_1 : decode cT_init 1 = .ok (.invokespecial 3, 3) := by decide +kernel
theorem dT_init_4 : decode cT_init 4 = .ok (.aload_n 0, 1) := by decide +kernel
theorem dT_init_5 : decode cT_init 5 = .ok (.bipush 96, 2) := by decide +kernel
theorem dT_init_7 : decode cT_init 7 = .ok (.newarray .int, 2) := by decide +kernel
theorem dT_init_9 : decode cT_init 9 = .ok (.putfield 9, 3) := by decide +kernel
theorem dT_init_12 : decode cT_init 12 = .ok (.aload_n 0, 1) := by decide +kernel
theorem dT_init_13 : decode cT_init 13 = .ok (.iconst 0, 1) := by decide +kernel
theorem dT_init_14 : decode cT_init 14 = .ok (.putfield 15, 3) := by decide +kernel
theorem dT_init_17 : decode cT_init 17 = .ok (.return_, 1) := by decide +kernel
theorem dT_add_0 : decode cT_add 0 = .ok (.aload_n 0, 1) := by decide +kernel
theorem dT_add_1 : decode cT_add 1 = .ok (.getfield 15, 3) := by decide +kernel
theorem dT_add_4 : decode cT_add 4 = .ok (.bipush 96, 2) := by decide +kernel
theorem dT_add_6 : decode cT_add 6 = .ok (.if_icmp .ge 23, 3) := by decide +kernel
theorem dT_add_9 : decode cT_add 9 = .ok (.aload_n 0, 1) := by decide +kernel
theorem dT_add_10 : decode cT_add 10 = .ok (.getfield 9, 3) := by decide +kernel
theorem dT_add_13 : decode cT_add 13 = .ok (.aload_n 0, 1) := by decide +kernel
theorem dT_add_14 : decode cT_add 14 = .ok (.getfield 15, 3) := by decide +kernel
theorem dT_add_17 : decode cT_add 17 = .ok (.iload_n 1, 1) := by decide +kernel
theorem dT_add_18 : decode cT_add 18 = .ok (.iastore, 1) := by decide +kernel
theorem dT_add_19 : decode cT_add 19 = .ok (.aload_n 0, 1) := by decide +kernel
theorem dT_add_20 : decode cT_add 20 = .ok (.dup, 1) := by decide +kernel
theorem dT_add_21 : decode cT_add 21 = .ok (.getfield 15, 3) := by decide +kernel
theorem dT_add_24 : decode cT_add 24 = .ok (.iconst 1, 1) := by decide +kernel
theorem dT_add_25 : decode cT_add 25 = .ok (.iadd, 1) := by decide +kernel
theorem dT_add_26 : decode cT_add 26 = .ok (.putfield 15, 3) := by decide +kernel
theorem dT_add_29 : decode cT_add 29 = .ok (.return_, 1) := by decide +kernel
theorem dT_behindStatement_0 : decode cT_behindStatement 0 = .ok (.aload_n 0, 1) := by decide +kernel
theorem dT_behindStatement_1 : decode cT_behindStatement 1 = .ok (.iload_n 1, 1) := by decide +kernel
theorem dT_behindStatement_2 : decode cT_behindStatement 2 = .ok (.invokevirtual 19, 3) := by decide +kernel
theorem dT_behindStatement_5 : decode cT_behindStatement 5 = .ok (.invokestatic 29, 3) := by decide +kernel
theorem dT_behindStatement_8 : decode cT_behindStatement 8 = .ok (.astore_n 2, 1) := by decide +kernel
theorem dT_behindStatement_9 : decode cT_behindStatement 9 = .ok (.aload_n 2, 1) := by decide +kernel
theorem dT_behindStatement_10 : decode cT_behindStatement 10 = .ok (.invokevirtual 33, 3) := by decide +kernel
theorem dT_behindStatement_13 : decode cT_behindStatement 13 = .ok (.ifCond .eq 7, 3) := by decide +kernel
theorem dT_behindStatement_16 : decode cT_behindStatement 16 = .ok (.iconst (-1), 1) := by decide +kernel
theorem dT_behindStatement_17 : decode cT_behindStatement 17 = .ok (.iload_n 1, 1) := by decide +kernel
theorem dT_behindStatement_18 : decode cT_behindStatement 18 = .ok (.isub, 1) := by decide +kernel
theorem dT_behindStatement_19 : decode cT_behindStatement 19 = .ok (.ireturn, 1) := by decide +kernel
theorem dT_behindStatement_20 : decode cT_behindStatement 20 = .ok (.iload_n 1, 1) := by decide +kernel
theorem dT_behindStatement_21 : decode cT_behindStatement 21 = .ok (.iconst 1, 1) := by decide +kernel
theorem dT_behindStatement_22 : decode cT_behindStatement 22 = .ok (.iadd, 1) := by decide +kernel
theorem dT_behindStatement_23 : decode cT_behindStatement 23 = .ok (.istore_n 3, 1) := by decide +kernel
theorem dT_behindStatement_24 : decode cT_behindStatement 24 = .ok (.iconst 0, 1) := by decide +kernel
theorem dT_behindStatement_25 : decode cT_behindStatement 25 = .ok (.istore 4, 2) := by decide +kernel
theorem dT_behindStatement_27 : decode cT_behindStatement 27 = .ok (.iload 4, 2) := by decide +kernel
theorem dT_behindStatement_29 : decode cT_behindStatement 29 = .ok (.aload_n 2, 1) := by decide +kernel
theorem dT_behindStatement_30 : decode cT_behindStatement 30 = .ok (.invokevirtual 39, 3) := by decide +kernel
theorem dT_behindStatement_33 : decode cT_behindStatement 33 = .ok (.if_icmp .ge 44, 3) := by decide +kernel
theorem dT_behindStatement_36 : decode cT_behindStatement 36 = .ok (.aload_n 2, 1) := by decide +kernel
theorem dT_behindStatement_37 : decode cT_behindStatement 37 = .ok (.iload 4, 2) := by decide +kernel
theorem dT_behindStatement_39 : decode cT_behindStatement 39 = .ok (.invokevirtual 42, 3) := by decide +kernel
theorem dT_behindStatement_42 : decode cT_behindStatement 42 = .ok (.istore 5, 2) := by decide +kernel
theorem dT_behindStatement_44 : decode cT_behindStatement 44 = .ok (.aload_n 0, 1) := by decide +kernel
theorem dT_behindStatement_45 : decode cT_behindStatement 45 = .ok (.iload 5, 2) := by decide +kernel
theorem dT_behindStatement_47 : decode cT_behindStatement 47 = .ok (.iload_n 3, 1) := by decide +kernel
theorem dT_behindStatement_48 : decode cT_behindStatement 48 = .ok (.invokevirtual 46, 3) := by decide +kernel
theorem dT_behindStatement_51 : decode cT_behindStatement 51 = .ok (.ifCond .eq 9, 3) := by decide +kernel
theorem dT_behindStatement_54 : decode cT_behindStatement 54 = .ok (.iinc 3 1, 3) := by decide +kernel
theorem dT_behindStatement_57 : decode cT_behindStatement 57 = .ok (.goto 14, 3) := by decide +kernel
theorem dT_behindStatement_60 : decode cT_behindStatement 60 = .ok (.iload 5, 2) := by decide +kernel
theorem dT_behindStatement_62 : decode cT_behindStatement 62 = .ok (.bipush 63, 2) := by decide +kernel
theorem dT_behindStatement_64 : decode cT_behindStatement 64 = .ok (.if_icmp .eq 7, 3) := by decide +kernel
theorem dT_behindStatement_67 : decode cT_behindStatement 67 = .ok (.iconst (-1), 1) := by decide +kernel
theorem dT_behindStatement_68 : decode cT_behindStatement 68 = .ok (.iload_n 3, 1) := by decide +kernel
theorem dT_behindStatement_69 : decode cT_behindStatement 69 = .ok (.isub, 1) := by decide +kernel
theorem dT_behindStatement_70 : decode cT_behindStatement 70 = .ok (.ireturn, 1) := by decide +kernel
theorem dT_behindStatement_71 : decode cT_behindStatement 71 = .ok (.iinc 4 1, 3) := by decide +kernel
theorem dT_behindStatement_74 : decode cT_behindStatement 74 = .ok (.goto (-47), 3) := by decide +kernel
theorem dT_behindStatement_77 : decode cT_behindStatement 77 = .ok (.iload_n 3, 1) := by decide +kernel
theorem dT_behindStatement_78 : decode cT_behindStatement 78 = .ok (.ireturn, 1) := by decide +kernel
theorem dT_digitAt_0 : decode cT_digitAt 0 = .ok (.aload_n 0, 1) := by decide +kernel
theorem dT_digitAt_1 : decode cT_digitAt 1 = .ok (.iload_n 1, 1) := by decide +kernel
theorem dT_digitAt_2 : decode cT_digitAt 2 = .ok (.invokevirtual 19, 3) := by decide +kernel
theorem dT_digitAt_5 : decode cT_digitAt 5 = .ok (.istore_n 2, 1) := by decide +kernel
theorem dT_digitAt_6 : decode cT_digitAt 6 = .ok (.iload_n 2, 1) := by decide +kernel
theorem dT_digitAt_7 : decode cT_digitAt 7 = .ok (.bipush 48, 2) := by decide +kernel
theorem dT_digitAt_9 : decode cT_digitAt 9 = .ok (.if_icmp .lt 16, 3) := by decide +kernel
theorem dT_digitAt_12 : decode cT_digitAt 12 = .ok (.iload_n 2, 1) := by decide +kernel
theorem dT_digitAt_13 : decode cT_digitAt 13 = .ok (.bipush 57, 2) := by decide +kernel
theorem dT_digitAt_15 : decode cT_digitAt 15 = .ok (.if_icmp .gt 10, 3) := by decide +kernel
theorem dT_digitAt_18 : decode cT_digitAt 18 = .ok (.iload_n 2, 1) := by decide +kernel
theorem dT_digitAt_19 : decode cT_digitAt 19 = .ok (.bipush 48, 2) := by decide +kernel
theorem dT_digitAt_21 : decode cT_digitAt 21 = .ok (.isub, 1) := by decide +kernel
theorem dT_digitAt_22 : decode cT_digitAt 22 = .ok (.goto 4, 3) := by decide +kernel
theorem dT_digitAt_25 : decode cT_digitAt 25 = .ok (.iconst (-1), 1) := by decide +kernel
theorem dT_digitAt_26 : decode cT_digitAt 26 = .ok (.ireturn, 1) := by decide +kernel
theorem dT_isDue_0 : decode cT_isDue 0 = .ok (.iload_n 1, 1) := by decide +kernel
theorem dT_isDue_1 : decode cT_isDue 1 = .ok (.lookupswitch 80 #[(35, 35), (63, 49), (64, 63)], 35) := by decide +kernel
theorem dT_isDue_36 : decode cT_isDue 36 = .ok (.aload_n 0, 1) := by decide +kernel
theorem dT_isDue_37 : decode cT_isDue 37 = .ok (.iload_n 2, 1) := by decide +kernel
theorem dT_isDue_38 : decode cT_isDue 38 = .ok (.invokevirtual 23, 3) := by decide +kernel
theorem dT_isDue_41 : decode cT_isDue 41 = .ok (.ifCond .lt 7, 3) := by decide +kernel
theorem dT_isDue_44 : decode cT_isDue 44 = .ok (.iconst 1, 1) := by decide +kernel
theorem dT_isDue_45 : decode cT_isDue 45 = .ok (.goto 4, 3) := by decide +kernel
theorem dT_isDue_48 : decode cT_isDue 48 = .ok (.iconst 0, 1) := by decide +kernel
theorem dT_isDue_49 : decode cT_isDue 49 = .ok (.ireturn, 1) := by decide +kernel
theorem dT_isDue_50 : decode cT_isDue 50 = .ok (.aload_n 0, 1) := by decide +kernel
theorem dT_isDue_51 : decode cT_isDue 51 = .ok (.iload_n 2, 1) := by decide +kernel
theorem dT_isDue_52 : decode cT_isDue 52 = .ok (.invokevirtual 23, 3) := by decide +kernel
theorem dT_isDue_55 : decode cT_isDue 55 = .ok (.ifCond .lt 7, 3) := by decide +kernel
theorem dT_isDue_58 : decode cT_isDue 58 = .ok (.iconst 1, 1) := by decide +kernel
theorem dT_isDue_59 : decode cT_isDue 59 = .ok (.goto 4, 3) := by decide +kernel
theorem dT_isDue_62 : decode cT_isDue 62 = .ok (.iconst 0, 1) := by decide +kernel
theorem dT_isDue_63 : decode cT_isDue 63 = .ok (.ireturn, 1) := by decide +kernel
theorem dT_isDue_64 : decode cT_isDue 64 = .ok (.aload_n 0, 1) := by decide +kernel
theorem dT_isDue_65 : decode cT_isDue 65 = .ok (.iload_n 2, 1) := by decide +kernel
theorem dT_isDue_66 : decode cT_isDue 66 = .ok (.invokevirtual 19, 3) := by decide +kernel
theorem dT_isDue_69 : decode cT_isDue 69 = .ok (.invokestatic 60, 3) := by decide +kernel
theorem dT_isDue_72 : decode cT_isDue 72 = .ok (.ifCond .lt 7, 3) := by decide +kernel
theorem dT_isDue_75 : decode cT_isDue 75 = .ok (.iconst 1, 1) := by decide +kernel
theorem dT_isDue_76 : decode cT_isDue 76 = .ok (.goto 4, 3) := by decide +kernel
theorem dT_isDue_79 : decode cT_isDue 79 = .ok (.iconst 0, 1) := by decide +kernel
theorem dT_isDue_80 : decode cT_isDue 80 = .ok (.ireturn, 1) := by decide +kernel
theorem dT_isDue_81 : decode cT_isDue 81 = .ok (.aload_n 0, 1) := by decide +kernel
theorem dT_isDue_82 : decode cT_isDue 82 = .ok (.iload_n 2, 1) := by decide +kernel
theorem dT_isDue_83 : decode cT_isDue 83 = .ok (.invokevirtual 19, 3) := by decide +kernel
theorem dT_isDue_86 : decode cT_isDue 86 = .ok (.iload_n 1, 1) := by decide +kernel
theorem dT_isDue_87 : decode cT_isDue 87 = .ok (.if_icmp .ne 7, 3) := by decide +kernel
theorem dT_isDue_90 : decode cT_isDue 90 = .ok (.iconst 1, 1) := by decide +kernel
theorem dT_isDue_91 : decode cT_isDue 91 = .ok (.goto 4, 3) := by decide +kernel
theorem dT_isDue_94 : decode cT_isDue 94 = .ok (.iconst 0, 1) := by decide +kernel
theorem dT_isDue_95 : decode cT_isDue 95 = .ok (.ireturn, 1) := by decide +kernel
theorem dT_misformedAt_0 : decode cT_misformedAt 0 = .ok (.iconst 0, 1) := by decide +kernel
theorem dT_misformedAt_1 : decode cT_misformedAt 1 = .ok (.istore_n 1, 1) := by decide +kernel
theorem dT_misformedAt_2 : decode cT_misformedAt 2 = .ok (.iconst 0, 1) := by decide +kernel
theorem dT_misformedAt_3 : decode cT_misformedAt 3 = .ok (.istore_n 2, 1) := by decide +kernel
theorem dT_misformedAt_4 : decode cT_misformedAt 4 = .ok (.iload_n 2, 1) := by decide +kernel
theorem dT_misformedAt_5 : decode cT_misformedAt 5 = .ok (.bipush 96, 2) := by decide +kernel
theorem dT_misformedAt_7 : decode cT_misformedAt 7 = .ok (.if_icmp .ge 35, 3) := by decide +kernel
theorem dT_misformedAt_10 : decode cT_misformedAt 10 = .ok (.aload_n 0, 1) := by decide +kernel
theorem dT_misformedAt_11 : decode cT_misformedAt 11 = .ok (.iload_n 1, 1) := by decide +kernel
theorem dT_misformedAt_12 : decode cT_misformedAt 12 = .ok (.invokevirtual 26, 3) := by decide +kernel
theorem dT_misformedAt_15 : decode cT_misformedAt 15 = .ok (.istore_n 3, 1) := by decide +kernel
theorem dT_misformedAt_16 : decode cT_misformedAt 16 = .ok (.iload_n 3, 1) := by decide +kernel
theorem dT_misformedAt_17 : decode cT_misformedAt 17 = .ok (.ifCond .ge 7, 3) := by decide +kernel
theorem dT_misformedAt_20 : decode cT_misformedAt 20 = .ok (.iconst (-1), 1) := by decide +kernel
theorem dT_misformedAt_21 : decode cT_misformedAt 21 = .ok (.iload_n 3, 1) := by decide +kernel
theorem dT_misformedAt_22 : decode cT_misformedAt 22 = .ok (.isub, 1) := by decide +kernel
theorem dT_misformedAt_23 : decode cT_misformedAt 23 = .ok (.ireturn, 1) := by decide +kernel
theorem dT_misformedAt_24 : decode cT_misformedAt 24 = .ok (.iload_n 3, 1) := by decide +kernel
theorem dT_misformedAt_25 : decode cT_misformedAt 25 = .ok (.aload_n 0, 1) := by decide +kernel
theorem dT_misformedAt_26 : decode cT_misformedAt 26 = .ok (.getfield 15, 3) := by decide +kernel
theorem dT_misformedAt_29 : decode cT_misformedAt 29 = .ok (.if_icmp .lt 5, 3) := by decide +kernel
theorem dT_misformedAt_32 : decode cT_misformedAt 32 = .ok (.iconst (-1), 1) := by decide +kernel
theorem dT_misformedAt_33 : decode cT_misformedAt 33 = .ok (.ireturn, 1) := by decide +kernel
theorem dT_misformedAt_34 : decode cT_misformedAt 34 = .ok (.iload_n 3, 1) := by decide +kernel
theorem dT_misformedAt_35 : decode cT_misformedAt 35 = .ok (.istore_n 1, 1) := by decide +kernel
theorem dT_misformedAt_36 : decode cT_misformedAt 36 = .ok (.iinc 2 1, 3) := by decide +kernel
theorem dT_misformedAt_39 : decode cT_misformedAt 39 = .ok (.goto (-35), 3) := by decide +kernel
theorem dT_misformedAt_42 : decode cT_misformedAt 42 = .ok (.iload_n 1, 1) := by decide +kernel
theorem dT_misformedAt_43 : decode cT_misformedAt 43 = .ok (.ireturn, 1) := by decide +kernel
theorem dT_numberAt_0 : decode cT_numberAt 0 = .ok (.aload_n 0, 1) := by decide +kernel
theorem dT_numberAt_1 : decode cT_numberAt 1 = .ok (.iload_n 1, 1) := by decide +kernel
theorem dT_numberAt_2 : decode cT_numberAt 2 = .ok (.invokevirtual 23, 3) := by decide +kernel
theorem dT_numberAt_5 : decode cT_numberAt 5 = .ok (.istore_n 2, 1) := by decide +kernel
theorem dT_numberAt_6 : decode cT_numberAt 6 = .ok (.iconst 1, 1) := by decide +kernel
theorem dT_numberAt_7 : decode cT_numberAt 7 = .ok (.istore_n 3, 1) := by decide +kernel
theorem dT_numberAt_8 : decode cT_numberAt 8 = .ok (.iload_n 3, 1) := by decide +kernel
theorem dT_numberAt_9 : decode cT_numberAt 9 = .ok (.iconst 3, 1) := by decide +kernel
theorem dT_numberAt_10 : decode cT_numberAt 10 = .ok (.if_icmp .ge 32, 3) := by decide +kernel
theorem dT_numberAt_13 : decode cT_numberAt 13 = .ok (.aload_n 0, 1) := by decide +kernel
theorem dT_numberAt_14 : decode cT_numberAt 14 = .ok (.iload_n 1, 1) := by decide +kernel
theorem dT_numberAt_15 : decode cT_numberAt 15 = .ok (.iload_n 3, 1) := by decide +kernel
theorem dT_numberAt_16 : decode cT_numberAt 16 = .ok (.iadd, 1) := by decide +kernel
theorem dT_numberAt_17 : decode cT_numberAt 17 = .ok (.invokevirtual 23, 3) := by decide +kernel
theorem dT_numberAt_20 : decode cT_numberAt 20 = .ok (.ifCond .lt 22, 3) := by decide +kernel
theorem dT_numberAt_23 : decode cT_numberAt 23 = .ok (.bipush 10, 2) := by decide +kernel
theorem dT_numberAt_25 : decode cT_numberAt 25 = .ok (.iload_n 2, 1) := by decide +kernel
theorem dT_numberAt_26 : decode cT_numberAt 26 = .ok (.imul, 1) := by decide +kernel
theorem dT_numberAt_27 : decode cT_numberAt 27 = .ok (.aload_n 0, 1) := by decide +kernel
theorem dT_numberAt_28 : decode cT_numberAt 28 = .ok (.iload_n 1, 1) := by decide +kernel
theorem dT_numberAt_29 : decode cT_numberAt 29 = .ok (.iload_n 3, 1) := by decide +kernel
theorem dT_numberAt_30 : decode cT_numberAt 30 = .ok (.iadd, 1) := by decide +kernel
theorem dT_numberAt_31 : decode cT_numberAt 31 = .ok (.invokevirtual 23, 3) := by decide +kernel
theorem dT_numberAt_34 : decode cT_numberAt 34 = .ok (.iadd, 1) := by decide +kernel
theorem dT_numberAt_35 : decode cT_numberAt 35 = .ok (.istore_n 2, 1) := by decide +kernel
theorem dT_numberAt_36 : decode cT_numberAt 36 = .ok (.iinc 3 1, 3) := by decide +kernel
theorem dT_numberAt_39 : decode cT_numberAt 39 = .ok (.goto (-31), 3) := by decide +kernel
theorem dT_numberAt_42 : decode cT_numberAt 42 = .ok (.iload_n 2, 1) := by decide +kernel
theorem dT_numberAt_43 : decode cT_numberAt 43 = .ok (.ireturn, 1) := by decide +kernel
theorem dT_shapeBehind_0 : decode cT_shapeBehind 0 = .ok (.iload_n 0, 1) := by decide +kernel
theorem dT_shapeBehind_1 : decode cT_shapeBehind 1 = .ok (.tableswitch 66 107 115 #[54, 57, 66, 66, 66, 60, 66, 51, 63], 51) := by decide +kernel
theorem dT_shapeBehind_52 : decode cT_shapeBehind 52 = .ok (.ldc 50, 2) := by decide +kernel
theorem dT_shapeBehind_54 : decode cT_shapeBehind 54 = .ok (.areturn, 1) := by decide +kernel
theorem dT_shapeBehind_55 : decode cT_shapeBehind 55 = .ok (.ldc 52, 2) := by decide +kernel
theorem dT_shapeBehind_57 : decode cT_shapeBehind 57 = .ok (.areturn, 1) := by decide +kernel
theorem dT_shapeBehind_58 : decode cT_shapeBehind 58 = .ok (.ldc 54, 2) := by decide +kernel
theorem dT_shapeBehind_60 : decode cT_shapeBehind 60 = .ok (.areturn, 1) := by decide +kernel
theorem dT_shapeBehind_61 : decode cT_shapeBehind 61 = .ok (.ldc 56, 2) := by decide +kernel
theorem dT_shapeBehind_63 : decode cT_shapeBehind 63 = .ok (.areturn, 1) := by decide +kernel
theorem dT_shapeBehind_64 : decode cT_shapeBehind 64 = .ok (.ldc 52, 2) := by decide +kernel
theorem dT_shapeBehind_66 : decode cT_shapeBehind 66 = .ok (.areturn, 1) := by decide +kernel
theorem dT_shapeBehind_67 : decode cT_shapeBehind 67 = .ok (.ldc 58, 2) := by decide +kernel
theorem dT_shapeBehind_69 : decode cT_shapeBehind 69 = .ok (.areturn, 1) := by decide +kernel
theorem dT_signAt_0 : decode cT_signAt 0 = .ok (.iload_n 1, 1) := by decide +kernel
theorem dT_signAt_1 : decode cT_signAt 1 = .ok (.ifCond .lt 20, 3) := by decide +kernel
theorem dT_signAt_4 : decode cT_signAt 4 = .ok (.iload_n 1, 1) := by decide +kernel
theorem dT_signAt_5 : decode cT_signAt 5 = .ok (.aload_n 0, 1) := by decide +kernel
theorem dT_signAt_6 : decode cT_signAt 6 = .ok (.getfield 15, 3) := by decide +kernel
theorem dT_signAt_9 : decode cT_signAt 9 = .ok (.if_icmp .ge 12, 3) := by decide +kernel
theorem dT_signAt_12 : decode cT_signAt 12 = .ok (.aload_n 0, 1) := by decide +kernel
theorem dT_signAt_13 : decode cT_signAt 13 = .ok (.getfield 9, 3) := by decide +kernel
theorem dT_signAt_16 : decode cT_signAt 16 = .ok (.iload_n 1, 1) := by decide +kernel
theorem dT_signAt_17 : decode cT_signAt 17 = .ok (.iaload, 1) := by decide +kernel
theorem dT_signAt_18 : decode cT_signAt 18 = .ok (.goto 4, 3) := by decide +kernel
theorem dT_signAt_21 : decode cT_signAt 21 = .ok (.iconst (-1), 1) := by decide +kernel
theorem dT_signAt_22 : decode cT_signAt 22 = .ok (.ireturn, 1) := by decide +kernel
end
section
/-! what stands at each place of the code -/
theorem dW_init_0 : decode cW_init 0 = .ok (.aload_n 0, 1) := by decide +kernel
theorem dW_init_1 : decode cW_init 1 = .ok (.invokespecial 3, 3) := by decide +kernel
theorem dW_init_4 : decode cW_init 4 = .ok (.aload_n 0, 1) := by decide +kernel
theorem dW_init_5 : decode cW_init 5 = .ok (.bipush 7, 2) := by decide +kernel
theorem dW_init_7 : decode cW_init 7 = .ok (.bipush 7, 2) := by decide +kernel
theorem dW_init_9 : decode cW_init 9 = .ok (.multianewarray 9 2, 4) := by decide +kernel
theorem dW_init_13 : decode cW_init 13 = .ok (.putfield 11, 3) := by decide +kernel
theorem dW_init_16 : decode cW_init 16 = .ok (.aload_n 0, 1) := by decide +kernel
theorem dW_init_17 : decode cW_init 17 = .ok (.sipush 896, 3) := by decide +kernel
theorem dW_init_20 : decode cW_init 20 = .ok (.newarray .int, 2) := by decide +kernel
theorem dW_init_22 : decode cW_init 22 = .ok (.putfield 16, 3) := by decide +kernel
theorem dW_init_25 : decode cW_init 25 = .ok (.return_, 1) := by decide +kernel
theorem dW_errandsFrom_0 : decode cW_errandsFrom 0 = .ok (.iload_n 1, 1) := by decide +kernel
theorem dW_errandsFrom_1 : decode cW_errandsFrom 1 = .ok (.invokestatic 44, 3) := by decide +kernel
theorem dW_errandsFrom_4 : decode cW_errandsFrom 4 = .ok (.ifCond .eq 14, 3) := by decide +kernel
theorem dW_errandsFrom_7 : decode cW_errandsFrom 7 = .ok (.iload_n 2, 1) := by decide +kernel
theorem dW_errandsFrom_8 : decode cW_errandsFrom 8 = .ok (.ifCond .lt 10, 3) := by decide +kernel
theorem dW_errandsFrom_11 : decode cW_errandsFrom 11 = .ok (.iload_n 2, 1) := by decide +kernel
theorem dW_errandsFrom_12 : decode cW_errandsFrom 12 = .ok (.sipush 128, 3) := by decide +kernel
theorem dW_errandsFrom_15 : decode cW_errandsFrom 15 = .ok (.if_icmp .lt 6, 3) := by decide +kernel
theorem dW_errandsFrom_18 : decode cW_errandsFrom 18 = .ok (.ldc 20, 2) := by decide +kernel
theorem dW_errandsFrom_20 : decode cW_errandsFrom 20 = .ok (.ireturn, 1) := by decide +kernel
theorem dW_errandsFrom_21 : decode cW_errandsFrom 21 = .ok (.iload_n 2, 1) := by decide +kernel
theorem dW_errandsFrom_22 : decode cW_errandsFrom 22 = .ok (.iconst 1, 1) := by decide +kernel
theorem dW_errandsFrom_23 : decode cW_errandsFrom 23 = .ok (.iload_n 1, 1) := by decide +kernel
theorem dW_errandsFrom_24 : decode cW_errandsFrom 24 = .ok (.ishl, 1) := by decide +kernel
theorem dW_errandsFrom_25 : decode cW_errandsFrom 25 = .ok (.ior, 1) := by decide +kernel
theorem dW_errandsFrom_26 : decode cW_errandsFrom 26 = .ok (.istore_n 3, 1) := by decide +kernel
theorem dW_errandsFrom_27 : decode cW_errandsFrom 27 = .ok (.aload_n 0, 1) := by decide +kernel
theorem dW_errandsFrom_28 : decode cW_errandsFrom 28 = .ok (.getfield 16, 3) := by decide +kernel
theorem dW_errandsFrom_31 : decode cW_errandsFrom 31 = .ok (.ldc 20, 2) := by decide +kernel
theorem dW_errandsFrom_33 : decode cW_errandsFrom 33 = .ok (.invokestatic 57, 3) := by decide +kernel
theorem dW_errandsFrom_36 : decode cW_errandsFrom 36 = .ok (.aload_n 0, 1) := by decide +kernel
theorem dW_errandsFrom_37 : decode cW_errandsFrom 37 = .ok (.getfield 16, 3) := by decide +kernel
theorem dW_errandsFrom_40 : decode cW_errandsFrom 40 = .ok (.iconst 1, 1) := by decide +kernel
theorem dW_errandsFrom_41 : decode cW_errandsFrom 41 = .ok (.iload_n 1, 1) := by decide +kernel
theorem dW_errandsFrom_42 : decode cW_errandsFrom 42 = .ok (.ishl, 1) := by decide +kernel
theorem dW_errandsFrom_43 : decode cW_errandsFrom 43 = .ok (.bipush 7, 2) := by decide +kernel
theorem dW_errandsFrom_45 : decode cW_errandsFrom 45 = .ok (.imul, 1) := by decide +kernel
theorem dW_errandsFrom_46 : decode cW_errandsFrom 46 = .ok (.iload_n 1, 1) := by decide +kernel
theorem dW_errandsFrom_47 : decode cW_errandsFrom 47 = .ok (.iadd, 1) := by decide +kernel
theorem dW_errandsFrom_48 : decode cW_errandsFrom 48 = .ok (.iconst 0, 1) := by decide +kernel
theorem dW_errandsFrom_49 : decode cW_errandsFrom 49 = .ok (.iastore, 1) := by decide +kernel
theorem dW_errandsFrom_50 : decode cW_errandsFrom 50 = .ok (.iconst 0, 1) := by decide +kernel
theorem dW_errandsFrom_51 : decode cW_errandsFrom 51 = .ok (.istore 4, 2) := by decide +kernel
theorem dW_errandsFrom_53 : decode cW_errandsFrom 53 = .ok (.iload 4, 2) := by decide +kernel
theorem dW_errandsFrom_55 : decode cW_errandsFrom 55 = .ok (.iload_n 3, 1) := by decide +kernel
theorem dW_errandsFrom_56 : decode cW_errandsFrom 56 = .ok (.if_icmp .ge 34, 3) := by decide +kernel
theorem dW_errandsFrom_59 : decode cW_errandsFrom 59 = .ok (.iconst 0, 1) := by decide +kernel
theorem dW_errandsFrom_60 : decode cW_errandsFrom 60 = .ok (.istore 5, 2) := by decide +kernel
theorem dW_errandsFrom_62 : decode cW_errandsFrom 62 = .ok (.iload 5, 2) := by decide +kernel
theorem dW_errandsFrom_64 : decode cW_errandsFrom 64 = .ok (.bipush 7, 2) := by decide +kernel
theorem dW_errandsFrom_66 : decode cW_errandsFrom 66 = .ok (.if_icmp .ge 18, 3) := by decide +kernel
theorem dW_errandsFrom_69 : decode cW_errandsFrom 69 = .ok (.aload_n 0, 1) := by decide +kernel
theorem dW_errandsFrom_70 : decode cW_errandsFrom 70 = .ok (.iload 4, 2) := by decide +kernel
theorem dW_errandsFrom_72 : decode cW_errandsFrom 72 = .ok (.iload 5, 2) := by decide +kernel
theorem dW_errandsFrom_74 : decode cW_errandsFrom 74 = .ok (.iload_n 3, 1) := by decide +kernel
theorem dW_errandsFrom_75 : decode cW_errandsFrom 75 = .ok (.invokevirtual 63, 3) := by decide +kernel
theorem dW_errandsFrom_78 : decode cW_errandsFrom 78 = .ok (.iinc 5 1, 3) := by decide +kernel
theorem dW_errandsFrom_81 : decode cW_errandsFrom 81 = .ok (.goto (-19), 3) := by decide +kernel
theorem dW_errandsFrom_84 : decode cW_errandsFrom 84 = .ok (.iinc 4 1, 3) := by decide +kernel
theorem dW_errandsFrom_87 : decode cW_errandsFrom 87 = .ok (.goto (-34), 3) := by decide +kernel
theorem dW_errandsFrom_90 : decode cW_errandsFrom 90 = .ok (.ldc 20, 2) := by decide +kernel
theorem dW_errandsFrom_92 : decode cW_errandsFrom 92 = .ok (.istore 4, 2) := by decide +kernel
theorem dW_errandsFrom_94 : decode cW_errandsFrom 94 = .ok (.iconst 0, 1) := by decide +kernel
theorem dW_errandsFrom_95 : decode cW_errandsFrom 95 = .ok (.istore 5, 2) := by decide +kernel
theorem dW_errandsFrom_97 : decode cW_errandsFrom 97 = .ok (.iload 5, 2) := by decide +kernel
theorem dW_errandsFrom_99 : decode cW_errandsFrom 99 = .ok (.bipush 7, 2) := by decide +kernel
theorem dW_errandsFrom_101 : decode cW_errandsFrom 101 = .ok (.if_icmp .ge 28, 3) := by decide +kernel
theorem dW_errandsFrom_104 : decode cW_errandsFrom 104 = .ok (.iload 4, 2) := by decide +kernel
theorem dW_errandsFrom_106 : decode cW_errandsFrom 106 = .ok (.aload_n 0, 1) := by decide +kernel
theorem dW_errandsFrom_107 : decode cW_errandsFrom 107 = .ok (.getfield 16, 3) := by decide +kernel
theorem dW_errandsFrom_110 : decode cW_errandsFrom 110 = .ok (.iload_n 3, 1) := by decide +kernel
theorem dW_errandsFrom_111 : decode cW_errandsFrom 111 = .ok (.bipush 7, 2) := by decide +kernel
theorem dW_errandsFrom_113 : decode cW_errandsFrom 113 = .ok (.imul, 1) := by decide +kernel
theorem dW_errandsFrom_114 : decode cW_errandsFrom 114 = .ok (.iload 5, 2) := by decide +kernel
theorem dW_errandsFrom_116 : decode cW_errandsFrom 116 = .ok (.iadd, 1) := by decide +kernel
theorem dW_errandsFrom_117 : decode cW_errandsFrom 117 = .ok (.iaload, 1) := by decide +kernel
theorem dW_errandsFrom_118 : decode cW_errandsFrom 118 = .ok (.invokestatic 48, 3) := by decide +kernel
theorem dW_errandsFrom_121 : decode cW_errandsFrom 121 = .ok (.istore 4, 2) := by decide +kernel
theorem dW_errandsFrom_123 : decode cW_errandsFrom 123 = .ok (.iinc 5 1, 3) := by decide +kernel
theorem dW_errandsFrom_126 : decode cW_errandsFrom 126 = .ok (.goto (-29), 3) := by decide +kernel
theorem dW_errandsFrom_129 : decode cW_errandsFrom 129 = .ok (.iload 4, 2) := by decide +kernel
theorem dW_errandsFrom_131 : decode cW_errandsFrom 131 = .ok (.ireturn, 1) := by decide +kernel
theorem dW_farthestRoom_0 : decode cW_farthestRoom 0 = .ok (.bipush (-9), 2) := by decide +kernel
theorem dW_farthestRoom_2 : decode cW_farthestRoom 2 = .ok (.istore_n 1, 1) := by decide +kernel
theorem dW_farthestRoom_3 : decode cW_farthestRoom 3 = .ok (.iconst (-1), 1) := by decide +kernel
theorem dW_farthestRoom_4 : decode cW_farthestRoom 4 = .ok (.istore_n 2, 1) := by decide +kernel
theorem dW_farthestRoom_5 : decode cW_farthestRoom 5 = .ok (.iconst 0, 1) := by decide +kernel
theorem dW_farthestRoom_6 : decode cW_farthestRoom 6 = .ok (.istore_n 3, 1) := by decide +kernel
theorem dW_farthestRoom_7 : decode cW_farthestRoom 7 = .ok (.iload_n 3, 1) := by decide +kernel
theorem dW_farthestRoom_8 : decode cW_farthestRoom 8 = .ok (.bipush 6, 2) := by decide +kernel
theorem dW_farthestRoom_10 : decode cW_farthestRoom 10 = .ok (.if_icmp .ge 38, 3) := by decide +kernel
theorem dW_farthestRoom_13 : decode cW_farthestRoom 13 = .ok (.aload_n 0, 1) := by decide +kernel
theorem dW_farthestRoom_14 : decode cW_farthestRoom 14 = .ok (.getfield 11, 3) := by decide +kernel
theorem dW_farthestRoom_17 : decode cW_farthestRoom 17 = .ok (.bipush 6, 2) := by decide +kernel
theorem dW_farthestRoom_19 : decode cW_farthestRoom 19 = .ok (.aaload, 1) := by decide +kernel
theorem dW_farthestRoom_20 : decode cW_farthestRoom 20 = .ok (.iload_n 3, 1) := by decide +kernel
theorem dW_farthestRoom_21 : decode cW_farthestRoom 21 = .ok (.iaload, 1) := by decide +kernel
theorem dW_farthestRoom_22 : decode cW_farthestRoom 22 = .ok (.istore 4, 2) := by decide +kernel
theorem dW_farthestRoom_24 : decode cW_farthestRoom 24 = .ok (.iload 4, 2) := by decide +kernel
theorem dW_farthestRoom_26 : decode cW_farthestRoom 26 = .ok (.ldc 20, 2) := by decide +kernel
theorem dW_farthestRoom_28 : decode cW_farthestRoom 28 = .ok (.if_icmp .ge 14, 3) := by decide +kernel
theorem dW_farthestRoom_31 : decode cW_farthestRoom 31 = .ok (.iload 4, 2) := by decide +kernel
theorem dW_farthestRoom_33 : decode cW_farthestRoom 33 = .ok (.iload_n 2, 1) := by decide +kernel
theorem dW_farthestRoom_34 : decode cW_farthestRoom 34 = .ok (.if_icmp .le 8, 3) := by decide +kernel
theorem dW_farthestRoom_37 : decode cW_farthestRoom 37 = .ok (.iload 4, 2) := by decide +kernel
theorem dW_farthestRoom_39 : decode cW_farthestRoom 39 = .ok (.istore_n 2, 1) := by decide +kernel
theorem dW_farthestRoom_40 : decode cW_farthestRoom 40 = .ok (.iload_n 3, 1) := by decide +kernel
theorem dW_farthestRoom_41 : decode cW_farthestRoom 41 = .ok (.istore_n 1, 1) := by decide +kernel
theorem dW_farthestRoom_42 : decode cW_farthestRoom 42 = .ok (.iinc 3 1, 3) := by decide +kernel
theorem dW_farthestRoom_45 : decode cW_farthestRoom 45 = .ok (.goto (-38), 3) := by decide +kernel
theorem dW_farthestRoom_48 : decode cW_farthestRoom 48 = .ok (.iload_n 1, 1) := by decide +kernel
theorem dW_farthestRoom_49 : decode cW_farthestRoom 49 = .ok (.ireturn, 1) := by decide +kernel
theorem dW_goOnFrom_0 : decode cW_goOnFrom 0 = .ok (.aload_n 0, 1) := by decide +kernel
theorem dW_goOnFrom_1 : decode cW_goOnFrom 1 = .ok (.getfield 16, 3) := by decide +kernel
theorem dW_goOnFrom_4 : decode cW_goOnFrom 4 = .ok (.iload_n 1, 1) := by decide +kernel
theorem dW_goOnFrom_5 : decode cW_goOnFrom 5 = .ok (.bipush 7, 2) := by decide +kernel
theorem dW_goOnFrom_7 : decode cW_goOnFrom 7 = .ok (.imul, 1) := by decide +kernel
theorem dW_goOnFrom_8 : decode cW_goOnFrom 8 = .ok (.iload_n 2, 1) := by decide +kernel
theorem dW_goOnFrom_9 : decode cW_goOnFrom 9 = .ok (.iadd, 1) := by decide +kernel
theorem dW_goOnFrom_10 : decode cW_goOnFrom 10 = .ok (.iaload, 1) := by decide +kernel
theorem dW_goOnFrom_11 : decode cW_goOnFrom 11 = .ok (.istore 4, 2) := by decide +kernel
theorem dW_goOnFrom_13 : decode cW_goOnFrom 13 = .ok (.iconst 0, 1) := by decide +kernel
theorem dW_goOnFrom_14 : decode cW_goOnFrom 14 = .ok (.istore 5, 2) := by decide +kernel
theorem dW_goOnFrom_16 : decode cW_goOnFrom 16 = .ok (.iload 5, 2) := by decide +kernel
theorem dW_goOnFrom_18 : decode cW_goOnFrom 18 = .ok (.bipush 7, 2) := by decide +kernel
theorem dW_goOnFrom_20 : decode cW_goOnFrom 20 = .ok (.if_icmp .ge 70, 3) := by decide +kernel
theorem dW_goOnFrom_23 : decode cW_goOnFrom 23 = .ok (.iload_n 1, 1) := by decide +kernel
theorem dW_goOnFrom_24 : decode cW_goOnFrom 24 = .ok (.iconst 1, 1) := by decide +kernel
theorem dW_goOnFrom_25 : decode cW_goOnFrom 25 = .ok (.iload 5, 2) := by decide +kernel
theorem dW_goOnFrom_27 : decode cW_goOnFrom 27 = .ok (.ishl, 1) := by decide +kernel
theorem dW_goOnFrom_28 : decode cW_goOnFrom 28 = .ok (.ior, 1) := by decide +kernel
theorem dW_goOnFrom_29 : decode cW_goOnFrom 29 = .ok (.istore 6, 2) := by decide +kernel
theorem dW_goOnFrom_31 : decode cW_goOnFrom 31 = .ok (.iload 6, 2) := by decide +kernel
theorem dW_goOnFrom_33 : decode cW_goOnFrom 33 = .ok (.iload_n 1, 1) := by decide +kernel
theorem dW_goOnFrom_34 : decode cW_goOnFrom 34 = .ok (.if_icmp .eq 50, 3) := by decide +kernel
theorem dW_goOnFrom_37 : decode cW_goOnFrom 37 = .ok (.iload 6, 2) := by decide +kernel
theorem dW_goOnFrom_39 : decode cW_goOnFrom 39 = .ok (.iload_n 3, 1) := by decide +kernel
theorem dW_goOnFrom_40 : decode cW_goOnFrom 40 = .ok (.ior, 1) := by decide +kernel
theorem dW_goOnFrom_41 : decode cW_goOnFrom 41 = .ok (.iload_n 3, 1) := by decide +kernel
theorem dW_goOnFrom_42 : decode cW_goOnFrom 42 = .ok (.if_icmp .ne 42, 3) := by decide +kernel
theorem dW_goOnFrom_45 : decode cW_goOnFrom 45 = .ok (.iload 6, 2) := by decide +kernel
theorem dW_goOnFrom_47 : decode cW_goOnFrom 47 = .ok (.bipush 7, 2) := by decide +kernel
theorem dW_goOnFrom_49 : decode cW_goOnFrom 49 = .ok (.imul, 1) := by decide +kernel
theorem dW_goOnFrom_50 : decode cW_goOnFrom 50 = .ok (.iload 5, 2) := by decide +kernel
theorem dW_goOnFrom_52 : decode cW_goOnFrom 52 = .ok (.iadd, 1) := by decide +kernel
theorem dW_goOnFrom_53 : decode cW_goOnFrom 53 = .ok (.istore 7, 2) := by decide +kernel
theorem dW_goOnFrom_55 : decode cW_goOnFrom 55 = .ok (.aload_n 0, 1) := by decide +kernel
theorem dW_goOnFrom_56 : decode cW_goOnFrom 56 = .ok (.getfield 16, 3) := by decide +kernel
theorem dW_goOnFrom_59 : decode cW_goOnFrom 59 = .ok (.iload 7, 2) := by decide +kernel
theorem dW_goOnFrom_61 : decode cW_goOnFrom 61 = .ok (.aload_n 0, 1) := by decide +kernel
theorem dW_goOnFrom_62 : decode cW_goOnFrom 62 = .ok (.getfield 16, 3) := by decide +kernel
theorem dW_goOnFrom_65 : decode cW_goOnFrom 65 = .ok (.iload 7, 2) := by decide +kernel
theorem dW_goOnFrom_67 : decode cW_goOnFrom 67 = .ok (.iaload, 1) := by decide +kernel
theorem dW_goOnFrom_68 : decode cW_goOnFrom 68 = .ok (.iload 4, 2) := by decide +kernel
theorem dW_goOnFrom_70 : decode cW_goOnFrom 70 = .ok (.aload_n 0, 1) := by decide +kernel
theorem dW_goOnFrom_71 : decode cW_goOnFrom 71 = .ok (.getfield 11, 3) := by decide +kernel
theorem dW_goOnFrom_74 : decode cW_goOnFrom 74 = .ok (.iload_n 2, 1) := by decide +kernel
theorem dW_goOnFrom_75 : decode cW_goOnFrom 75 = .ok (.aaload, 1) := by decide +kernel
theorem dW_goOnFrom_76 : decode cW_goOnFrom 76 = .ok (.iload 5, 2) := by decide +kernel
theorem dW_goOnFrom_78 : decode cW_goOnFrom 78 = .ok (.iaload, 1) := by decide +kernel
theorem dW_goOnFrom_79 : decode cW_goOnFrom 79 = .ok (.iadd, 1) := by decide +kernel
theorem dW_goOnFrom_80 : decode cW_goOnFrom 80 = .ok (.invokestatic 48, 3) := by decide +kernel
theorem dW_goOnFrom_83 : decode cW_goOnFrom 83 = .ok (.iastore, 1) := by decide +kernel
theorem dW_goOnFrom_84 : decode cW_goOnFrom 84 = .ok (.iinc 5 1, 3) := by decide +kernel
theorem dW_goOnFrom_87 : decode cW_goOnFrom 87 = .ok (.goto (-71), 3) := by decide +kernel
theorem dW_goOnFrom_90 : decode cW_goOnFrom 90 = .ok (.return_, 1) := by decide +kernel
theorem dW_join_0 : decode cW_join 0 = .ok (.iload_n 1, 1) := by decide +kernel
theorem dW_join_1 : decode cW_join 1 = .ok (.invokestatic 44, 3) := by decide +kernel
theorem dW_join_4 : decode cW_join 4 = .ok (.ifCond .eq 50, 3) := by decide +kernel
theorem dW_join_7 : decode cW_join 7 = .ok (.iload_n 2, 1) := by decide +kernel
theorem dW_join_8 : decode cW_join 8 = .ok (.invokestatic 44, 3) := by decide +kernel
theorem dW_join_11 : decode cW_join 11 = .ok (.ifCond .eq 43, 3) := by decide +kernel
theorem dW_join_14 : decode cW_join 14 = .ok (.aload_n 0, 1) := by decide +kernel
theorem dW_join_15 : decode cW_join 15 = .ok (.getfield 11, 3) := by decide +kernel
theorem dW_join_18 : decode cW_join 18 = .ok (.iload_n 1, 1) := by decide +kernel
theorem dW_join_19 : decode cW_join 19 = .ok (.aaload, 1) := by decide +kernel
theorem dW_join_20 : decode cW_join 20 = .ok (.iload_n 2, 1) := by decide +kernel
theorem dW_join_21 : decode cW_join 21 = .ok (.aload_n 0, 1) := by decide +kernel
theorem dW_join_22 : decode cW_join 22 = .ok (.getfield 11, 3) := by decide +kernel
theorem dW_join_25 : decode cW_join 25 = .ok (.iload_n 1, 1) := by decide +kernel
theorem dW_join_26 : decode cW_join 26 = .ok (.aaload, 1) := by decide +kernel
theorem dW_join_27 : decode cW_join 27 = .ok (.iload_n 2, 1) := by decide +kernel
theorem dW_join_28 : decode cW_join 28 = .ok (.iaload, 1) := by decide +kernel
theorem dW_join_29 : decode cW_join 29 = .ok (.iload_n 3, 1) := by decide +kernel
theorem dW_join_30 : decode cW_join 30 = .ok (.invokestatic 48, 3) := by decide +kernel
theorem dW_join_33 : decode cW_join 33 = .ok (.iastore, 1) := by decide +kernel
theorem dW_join_34 : decode cW_join 34 = .ok (.aload_n 0, 1) := by decide +kernel
theorem dW_join_35 : decode cW_join 35 = .ok (.getfield 11, 3) := by decide +kernel
theorem dW_join_38 : decode cW_join 38 = .ok (.iload_n 2, 1) := by decide +kernel
theorem dW_join_39 : decode cW_join 39 = .ok (.aaload, 1) := by decide +kernel
theorem dW_join_40 : decode cW_join 40 = .ok (.iload_n 1, 1) := by decide +kernel
theorem dW_join_41 : decode cW_join 41 = .ok (.aload_n 0, 1) := by decide +kernel
theorem dW_join_42 : decode cW_join 42 = .ok (.getfield 11, 3) := by decide +kernel
theorem dW_join_45 : decode cW_join 45 = .ok (.iload_n 2, 1) := by decide +kernel
theorem dW_join_46 : decode cW_join 46 = .ok (.aaload, 1) := by decide +kernel
theorem dW_join_47 : decode cW_join 47 = .ok (.iload_n 1, 1) := by decide +kernel
theorem dW_join_48 : decode cW_join 48 = .ok (.iaload, 1) := by decide +kernel
theorem dW_join_49 : decode cW_join 49 = .ok (.iload_n 3, 1) := by decide +kernel
theorem dW_join_50 : decode cW_join 50 = .ok (.invokestatic 48, 3) := by decide +kernel
theorem dW_join_53 : decode cW_join 53 = .ok (.iastore, 1) := by decide +kernel
theorem dW_join_54 : decode cW_join 54 = .ok (.return_, 1) := by decide +kernel
theorem dW_longestWith_0 : decode cW_longestWith 0 = .ok (.iload_n 1, 1) := by decide +kernel
theorem dW_longestWith_1 : decode cW_longestWith 1 = .ok (.invokestatic 44, 3) := by decide +kernel
theorem dW_longestWith_4 : decode cW_longestWith 4 = .ok (.ifCond .eq 10, 3) := by decide +kernel
theorem dW_longestWith_7 : decode cW_longestWith 7 = .ok (.iload_n 2, 1) := by decide +kernel
theorem dW_longestWith_8 : decode cW_longestWith 8 = .ok (.invokestatic 44, 3) := by decide +kernel
theorem dW_longestWith_11 : decode cW_longestWith 11 = .ok (.ifCond .ne 6, 3) := by decide +kernel
theorem dW_longestWith_14 : decode cW_longestWith 14 = .ok (.ldc 20, 2) := by decide +kernel
theorem dW_longestWith_16 : decode cW_longestWith 16 = .ok (.ireturn, 1) := by decide +kernel
theorem dW_longestWith_17 : decode cW_longestWith 17 = .ok (.iconst 0, 1) := by decide +kernel
theorem dW_longestWith_18 : decode cW_longestWith 18 = .ok (.istore_n 3, 1) := by decide +kernel
theorem dW_longestWith_19 : decode cW_longestWith 19 = .ok (.iconst 0, 1) := by decide +kernel
theorem dW_longestWith_20 : decode cW_longestWith 20 = .ok (.istore 4, 2) := by decide +kernel
theorem dW_longestWith_22 : decode cW_longestWith 22 = .ok (.iload 4, 2) := by decide +kernel
theorem dW_longestWith_24 : decode cW_longestWith 24 = .ok (.bipush 6, 2) := by decide +kernel
theorem dW_longestWith_26 : decode cW_longestWith 26 = .ok (.if_icmp .ge 80, 3) := by decide +kernel
theorem dW_longestWith_29 : decode cW_longestWith 29 = .ok (.aload_n 0, 1) := by decide +kernel
theorem dW_longestWith_30 : decode cW_longestWith 30 = .ok (.getfield 11, 3) := by decide +kernel
theorem dW_longestWith_33 : decode cW_longestWith 33 = .ok (.bipush 6, 2) := by decide +kernel
theorem dW_longestWith_35 : decode cW_longestWith 35 = .ok (.aaload, 1) := by decide +kernel
theorem dW_longestWith_36 : decode cW_longestWith 36 = .ok (.iload_n 1, 1) := by decide +kernel
theorem dW_longestWith_37 : decode cW_longestWith 37 = .ok (.iaload, 1) := by decide +kernel
theorem dW_longestWith_38 : decode cW_longestWith 38 = .ok (.iconst 1, 1) := by decide +kernel
theorem dW_longestWith_39 : decode cW_longestWith 39 = .ok (.iadd, 1) := by decide +kernel
theorem dW_longestWith_40 : decode cW_longestWith 40 = .ok (.aload_n 0, 1) := by decide +kernel
theorem dW_longestWith_41 : decode cW_longestWith 41 = .ok (.getfield 11, 3) := by decide +kernel
theorem dW_longestWith_44 : decode cW_longestWith 44 = .ok (.iload_n 2, 1) := by decide +kernel
theorem dW_longestWith_45 : decode cW_longestWith 45 = .ok (.aaload, 1) := by decide +kernel
theorem dW_longestWith_46 : decode cW_longestWith 46 = .ok (.iload 4, 2) := by decide +kernel
theorem dW_longestWith_48 : decode cW_longestWith 48 = .ok (.iaload, 1) := by decide +kernel
theorem dW_longestWith_49 : decode cW_longestWith 49 = .ok (.iadd, 1) := by decide +kernel
theorem dW_longestWith_50 : decode cW_longestWith 50 = .ok (.istore 5, 2) := by decide +kernel
theorem dW_longestWith_52 : decode cW_longestWith 52 = .ok (.aload_n 0, 1) := by decide +kernel
theorem dW_longestWith_53 : decode cW_longestWith 53 = .ok (.getfield 11, 3) := by decide +kernel
theorem dW_longestWith_56 : decode cW_longestWith 56 = .ok (.bipush 6, 2) := by decide +kernel
theorem dW_longestWith_58 : decode cW_longestWith 58 = .ok (.aaload, 1) := by decide +kernel
theorem dW_longestWith_59 : decode cW_longestWith 59 = .ok (.iload_n 2, 1) := by decide +kernel
theorem dW_longestWith_60 : decode cW_longestWith 60 = .ok (.iaload, 1) := by decide +kernel
theorem dW_longestWith_61 : decode cW_longestWith 61 = .ok (.iconst 1, 1) := by decide +kernel
theorem dW_longestWith_62 : decode cW_longestWith 62 = .ok (.iadd, 1) := by decide +kernel
theorem dW_longestWith_63 : decode cW_longestWith 63 = .ok (.aload_n 0, 1) := by decide +kernel
theorem dW_longestWith_64 : decode cW_longestWith 64 = .ok (.getfield 11, 3) := by decide +kernel
theorem dW_longestWith_67 : decode cW_longestWith 67 = .ok (.iload_n 1, 1) := by decide +kernel
theorem dW_longestWith_68 : decode cW_longestWith 68 = .ok (.aaload, 1) := by decide +kernel
theorem dW_longestWith_69 : decode cW_longestWith 69 = .ok (.iload 4, 2) := by decide +kernel
theorem dW_longestWith_71 : decode cW_longestWith 71 = .ok (.iaload, 1) := by decide +kernel
theorem dW_longestWith_72 : decode cW_longestWith 72 = .ok (.iadd, 1) := by decide +kernel
theorem dW_longestWith_73 : decode cW_longestWith 73 = .ok (.istore 6, 2) := by decide +kernel
theorem dW_longestWith_75 : decode cW_longestWith 75 = .ok (.iload_n 3, 1) := by decide +kernel
theorem dW_longestWith_76 : decode cW_longestWith 76 = .ok (.aload_n 0, 1) := by decide +kernel
theorem dW_longestWith_77 : decode cW_longestWith 77 = .ok (.getfield 11, 3) := by decide +kernel
theorem dW_longestWith_80 : decode cW_longestWith 80 = .ok (.bipush 6, 2) := by decide +kernel
theorem dW_longestWith_82 : decode cW_longestWith 82 = .ok (.aaload, 1) := by decide +kernel
theorem dW_longestWith_83 : decode cW_longestWith 83 = .ok (.iload 4, 2) := by decide +kernel
theorem dW_longestWith_85 : decode cW_longestWith 85 = .ok (.iaload, 1) := by decide +kernel
theorem dW_longestWith_86 : decode cW_longestWith 86 = .ok (.iload 5, 2) := by decide +kernel
theorem dW_longestWith_88 : decode cW_longestWith 88 = .ok (.iload 6, 2) := by decide +kernel
theorem dW_longestWith_90 : decode cW_longestWith 90 = .ok (.invokestatic 48, 3) := by decide +kernel
theorem dW_longestWith_93 : decode cW_longestWith 93 = .ok (.invokestatic 48, 3) := by decide +kernel
theorem dW_longestWith_96 : decode cW_longestWith 96 = .ok (.invokestatic 54, 3) := by decide +kernel
theorem dW_longestWith_99 : decode cW_longestWith 99 = .ok (.istore_n 3, 1) := by decide +kernel
theorem dW_longestWith_100 : decode cW_longestWith 100 = .ok (.iinc 4 1, 3) := by decide +kernel
theorem dW_longestWith_103 : decode cW_longestWith 103 = .ok (.goto (-81), 3) := by decide +kernel
theorem dW_longestWith_106 : decode cW_longestWith 106 = .ok (.iload_n 3, 1) := by decide +kernel
theorem dW_longestWith_107 : decode cW_longestWith 107 = .ok (.ireturn, 1) := by decide +kernel
theorem dW_measure_0 : decode cW_measure 0 = .ok (.iconst 0, 1) := by decide +kernel
theorem dW_measure_1 : decode cW_measure 1 = .ok (.istore_n 2, 1) := by decide +kernel
theorem dW_measure_2 : decode cW_measure 2 = .ok (.iload_n 2, 1) := by decide +kernel
theorem dW_measure_3 : decode cW_measure 3 = .ok (.bipush 7, 2) := by decide +kernel
theorem dW_measure_5 : decode cW_measure 5 = .ok (.if_icmp .ge 42, 3) := by decide +kernel
theorem dW_measure_8 : decode cW_measure 8 = .ok (.iconst 0, 1) := by decide +kernel
theorem dW_measure_9 : decode cW_measure 9 = .ok (.istore_n 3, 1) := by decide +kernel
theorem dW_measure_10 : decode cW_measure 10 = .ok (.iload_n 3, 1) := by decide +kernel
theorem dW_measure_11 : decode cW_measure 11 = .ok (.bipush 7, 2) := by decide +kernel
theorem dW_measure_13 : decode cW_measure 13 = .ok (.if_icmp .ge 28, 3) := by decide +kernel
theorem dW_measure_16 : decode cW_measure 16 = .ok (.aload_n 0, 1) := by decide +kernel
theorem dW_measure_17 : decode cW_measure 17 = .ok (.getfield 11, 3) := by decide +kernel
theorem dW_measure_20 : decode cW_measure 20 = .ok (.iload_n 2, 1) := by decide +kernel
theorem dW_measure_21 : decode cW_measure 21 = .ok (.aaload, 1) := by decide +kernel
theorem dW_measure_22 : decode cW_measure 22 = .ok (.iload_n 3, 1) := by decide +kernel
theorem dW_measure_23 : decode cW_measure 23 = .ok (.iload_n 2, 1) := by decide +kernel
theorem dW_measure_24 : decode cW_measure 24 = .ok (.iload_n 3, 1) := by decide +kernel
theorem dW_measure_25 : decode cW_measure 25 = .ok (.if_icmp .ne 7, 3) := by decide +kernel
theorem dW_measure_28 : decode cW_measure 28 = .ok (.iconst 0, 1) := by decide +kernel
theorem dW_measure_29 : decode cW_measure 29 = .ok (.goto 5, 3) := by decide +kernel
theorem dW_measure_32 : decode cW_measure 32 = .ok (.ldc 20, 2) := by decide +kernel
theorem dW_measure_34 : decode cW_measure 34 = .ok (.iastore, 1) := by decide +kernel
theorem dW_measure_35 : decode cW_measure 35 = .ok (.iinc 3 1, 3) := by decide +kernel
theorem dW_measure_38 : decode cW_measure 38 = .ok (.goto (-28), 3) := by decide +kernel
theorem dW_measure_41 : decode cW_measure 41 = .ok (.iinc 2 1, 3) := by decide +kernel
theorem dW_measure_44 : decode cW_measure 44 = .ok (.goto (-42), 3) := by decide +kernel
theorem dW_measure_47 : decode cW_measure 47 = .ok (.iconst 0, 1) := by decide +kernel
theorem dW_measure_48 : decode cW_measure 48 = .ok (.istore_n 2, 1) := by decide +kernel
theorem dW_measure_49 : decode cW_measure 49 = .ok (.iload_n 2, 1) := by decide +kernel
theorem dW_measure_50 : decode cW_measure 50 = .ok (.aload_n 1, 1) := by decide +kernel
theorem dW_measure_51 : decode cW_measure 51 = .ok (.getfield 21, 3) := by decide +kernel
theorem dW_measure_54 : decode cW_measure 54 = .ok (.if_icmp .ge 31, 3) := by decide +kernel
theorem dW_measure_57 : decode cW_measure 57 = .ok (.aload_n 0, 1) := by decide +kernel
theorem dW_measure_58 : decode cW_measure 58 = .ok (.aload_n 1, 1) := by decide +kernel
theorem dW_measure_59 : decode cW_measure 59 = .ok (.getfield 27, 3) := by decide +kernel
theorem dW_measure_62 : decode cW_measure 62 = .ok (.iload_n 2, 1) := by decide +kernel
theorem dW_measure_63 : decode cW_measure 63 = .ok (.iaload, 1) := by decide +kernel
theorem dW_measure_64 : decode cW_measure 64 = .ok (.aload_n 1, 1) := by decide +kernel
theorem dW_measure_65 : decode cW_measure 65 = .ok (.getfield 30, 3) := by decide +kernel
theorem dW_measure_68 : decode cW_measure 68 = .ok (.iload_n 2, 1) := by decide +kernel
theorem dW_measure_69 : decode cW_measure 69 = .ok (.iaload, 1) := by decide +kernel
theorem dW_measure_70 : decode cW_measure 70 = .ok (.aload_n 1, 1) := by decide +kernel
theorem dW_measure_71 : decode cW_measure 71 = .ok (.getfield 33, 3) := by decide +kernel
theorem dW_measure_74 : decode cW_measure 74 = .ok (.iload_n 2, 1) := by decide +kernel
theorem dW_measure_75 : decode cW_measure 75 = .ok (.iaload, 1) := by decide +kernel
theorem dW_measure_76 : decode cW_measure 76 = .ok (.invokevirtual 36, 3) := by decide +kernel
theorem dW_measure_79 : decode cW_measure 79 = .ok (.iinc 2 1, 3) := by decide +kernel
theorem dW_measure_82 : decode cW_measure 82 = .ok (.goto (-33), 3) := by decide +kernel
theorem dW_measure_85 : decode cW_measure 85 = .ok (.iconst 0, 1) := by decide +kernel
theorem dW_measure_86 : decode cW_measure 86 = .ok (.istore_n 2, 1) := by decide +kernel
theorem dW_measure_87 : decode cW_measure 87 = .ok (.iload_n 2, 1) := by decide +kernel
theorem dW_measure_88 : decode cW_measure 88 = .ok (.bipush 7, 2) := by decide +kernel
theorem dW_measure_90 : decode cW_measure 90 = .ok (.if_icmp .ge 14, 3) := by decide +kernel
theorem dW_measure_93 : decode cW_measure 93 = .ok (.aload_n 0, 1) := by decide +kernel
theorem dW_measure_94 : decode cW_measure 94 = .ok (.iload_n 2, 1) := by decide +kernel
theorem dW_measure_95 : decode cW_measure 95 = .ok (.invokevirtual 40, 3) := by decide +kernel
theorem dW_measure_98 : decode cW_measure 98 = .ok (.iinc 2 1, 3) := by decide +kernel
theorem dW_measure_101 : decode cW_measure 101 = .ok (.goto (-14), 3) := by decide +kernel
theorem dW_measure_104 : decode cW_measure 104 = .ok (.return_, 1) := by decide +kernel
theorem dW_shortenBy_0 : decode cW_shortenBy 0 = .ok (.iconst 0, 1) := by decide +kernel
theorem dW_shortenBy_1 : decode cW_shortenBy 1 = .ok (.istore_n 2, 1) := by decide +kernel
theorem dW_shortenBy_2 : decode cW_shortenBy 2 = .ok (.iload_n 2, 1) := by decide +kernel
theorem dW_shortenBy_3 : decode cW_shortenBy 3 = .ok (.bipush 7, 2) := by decide +kernel
theorem dW_shortenBy_5 : decode cW_shortenBy 5 = .ok (.if_icmp .ge 59, 3) := by decide +kernel
theorem dW_shortenBy_8 : decode cW_shortenBy 8 = .ok (.iconst 0, 1) := by decide +kernel
theorem dW_shortenBy_9 : decode cW_shortenBy 9 = .ok (.istore_n 3, 1) := by decide +kernel
theorem dW_shortenBy_10 : decode cW_shortenBy 10 = .ok (.iload_n 3, 1) := by decide +kernel
theorem dW_shortenBy_11 : decode cW_shortenBy 11 = .ok (.bipush 7, 2) := by decide +kernel
theorem dW_shortenBy_13 : decode cW_shortenBy 13 = .ok (.if_icmp .ge 45, 3) := by decide +kernel
theorem dW_shortenBy_16 : decode cW_shortenBy 16 = .ok (.aload_n 0, 1) := by decide +kernel
theorem dW_shortenBy_17 : decode cW_shortenBy 17 = .ok (.getfield 11, 3) := by decide +kernel
theorem dW_shortenBy_20 : decode cW_shortenBy 20 = .ok (.iload_n 2, 1) := by decide +kernel
theorem dW_shortenBy_21 : decode cW_shortenBy 21 = .ok (.aaload, 1) := by decide +kernel
theorem dW_shortenBy_22 : decode cW_shortenBy 22 = .ok (.iload_n 3, 1) := by decide +kernel
theorem dW_shortenBy_23 : decode cW_shortenBy 23 = .ok (.aload_n 0, 1) := by decide +kernel
theorem dW_shortenBy_24 : decode cW_shortenBy 24 = .ok (.getfield 11, 3) := by decide +kernel
theorem dW_shortenBy_27 : decode cW_shortenBy 27 = .ok (.iload_n 2, 1) := by decide +kernel
theorem dW_shortenBy_28 : decode cW_shortenBy 28 = .ok (.aaload, 1) := by decide +kernel
theorem dW_shortenBy_29 : decode cW_shortenBy 29 = .ok (.iload_n 3, 1) := by decide +kernel
theorem dW_shortenBy_30 : decode cW_shortenBy 30 = .ok (.iaload, 1) := by decide +kernel
theorem dW_shortenBy_31 : decode cW_shortenBy 31 = .ok (.aload_n 0, 1) := by decide +kernel
theorem dW_shortenBy_32 : decode cW_shortenBy 32 = .ok (.getfield 11, 3) := by decide +kernel
theorem dW_shortenBy_35 : decode cW_shortenBy 35 = .ok (.iload_n 2, 1) := by decide +kernel
theorem dW_shortenBy_36 : decode cW_shortenBy 36 = .ok (.aaload, 1) := by decide +kernel
theorem dW_shortenBy_37 : decode cW_shortenBy 37 = .ok (.iload_n 1, 1) := by decide +kernel
theorem dW_shortenBy_38 : decode cW_shortenBy 38 = .ok (.iaload, 1) := by decide +kernel
theorem dW_shortenBy_39 : decode cW_shortenBy 39 = .ok (.aload_n 0, 1) := by decide +kernel
theorem dW_shortenBy_40 : decode cW_shortenBy 40 = .ok (.getfield 11, 3) := by decide +kernel
theorem dW_shortenBy_43 : decode cW_shortenBy 43 = .ok (.iload_n 1, 1) := by decide +kernel
theorem dW_shortenBy_44 : decode cW_shortenBy 44 = .ok (.aaload, 1) := by decide +kernel
theorem dW_shortenBy_45 : decode cW_shortenBy 45 = .ok (.iload_n 3, 1) := by decide +kernel
theorem dW_shortenBy_46 : decode cW_shortenBy 46 = .ok (.iaload, 1) := by decide +kernel
theorem dW_shortenBy_47 : decode cW_shortenBy 47 = .ok (.iadd, 1) := by decide +kernel
theorem dW_shortenBy_48 : decode cW_shortenBy 48 = .ok (.invokestatic 48, 3) := by decide +kernel
theorem dW_shortenBy_51 : decode cW_shortenBy 51 = .ok (.iastore, 1) := by decide +kernel
theorem dW_shortenBy_52 : decode cW_shortenBy 52 = .ok (.iinc 3 1, 3) := by decide +kernel
theorem dW_shortenBy_55 : decode cW_shortenBy 55 = .ok (.goto (-45), 3) := by decide +kernel
theorem dW_shortenBy_58 : decode cW_shortenBy 58 = .ok (.iinc 2 1, 3) := by decide +kernel
theorem dW_shortenBy_61 : decode cW_shortenBy 61 = .ok (.goto (-59), 3) := by decide +kernel
theorem dW_shortenBy_64 : decode cW_shortenBy 64 = .ok (.return_, 1) := by decide +kernel
theorem dW_toAnyRoom_0 : decode cW_toAnyRoom 0 = .ok (.ldc 20, 2) := by decide +kernel
theorem dW_toAnyRoom_2 : decode cW_toAnyRoom 2 = .ok (.istore_n 2, 1) := by decide +kernel
theorem dW_toAnyRoom_3 : decode cW_toAnyRoom 3 = .ok (.iconst 0, 1) := by decide +kernel
theorem dW_toAnyRoom_4 : decode cW_toAnyRoom 4 = .ok (.istore_n 3, 1) := by decide +kernel
theorem dW_toAnyRoom_5 : decode cW_toAnyRoom 5 = .ok (.iload_n 3, 1) := by decide +kernel
theorem dW_toAnyRoom_6 : decode cW_toAnyRoom 6 = .ok (.bipush 6, 2) := by decide +kernel
theorem dW_toAnyRoom_8 : decode cW_toAnyRoom 8 = .ok (.if_icmp .ge 22, 3) := by decide +kernel
theorem dW_toAnyRoom_11 : decode cW_toAnyRoom 11 = .ok (.iload_n 2, 1) := by decide +kernel
theorem dW_toAnyRoom_12 : decode cW_toAnyRoom 12 = .ok (.aload_n 0, 1) := by decide +kernel
theorem dW_toAnyRoom_13 : decode cW_toAnyRoom 13 = .ok (.getfield 11, 3) := by decide +kernel
theorem dW_toAnyRoom_16 : decode cW_toAnyRoom 16 = .ok (.iload_n 1, 1) := by decide +kernel
theorem dW_toAnyRoom_17 : decode cW_toAnyRoom 17 = .ok (.aaload, 1) := by decide +kernel
theorem dW_toAnyRoom_18 : decode cW_toAnyRoom 18 = .ok (.iload_n 3, 1) := by decide +kernel
theorem dW_toAnyRoom_19 : decode cW_toAnyRoom 19 = .ok (.iaload, 1) := by decide +kernel
theorem dW_toAnyRoom_20 : decode cW_toAnyRoom 20 = .ok (.invokestatic 48, 3) := by decide +kernel
theorem dW_toAnyRoom_23 : decode cW_toAnyRoom 23 = .ok (.istore_n 2, 1) := by decide +kernel
theorem dW_toAnyRoom_24 : decode cW_toAnyRoom 24 = .ok (.iinc 3 1, 3) := by decide +kernel
theorem dW_toAnyRoom_27 : decode cW_toAnyRoom 27 = .ok (.goto (-22), 3) := by decide +kernel
theorem dW_toAnyRoom_30 : decode cW_toAnyRoom 30 = .ok (.iload_n 2, 1) := by decide +kernel
theorem dW_toAnyRoom_31 : decode cW_toAnyRoom 31 = .ok (.ireturn, 1) := by decide +kernel
end
section
/-! what stands at each place of the code -/
theorem dX_init_0 : decode cX_init 0 = .ok (.aload_n 0, 1) := by decide +kernel
theorem dX_init_1 : decode cX_init 1 = .ok (.invokespecial 3, 3) := by decide +kernel
theorem dX_init_4 : decode cX_init 4 = .ok (.aload_n 0, 1) := by decide +kernel
theorem dX_init_5 : decode cX_init 5 = .ok (.new 9, 3) := by decide +kernel
theorem dX_init_8 : decode cX_init 8 = .ok (.dup, 1) := by decide +kernel
theorem dX_init_9 : decode cX_init 9 = .ok (.invokespecial 11, 3) := by decide +kernel
theorem dX_init_12 : decode cX_init 12 = .ok (.putfield 12, 3) := by decide +kernel
theorem dX_init_15 : decode cX_init 15 = .ok (.aload_n 0, 1) := by decide +kernel
theorem dX_init_16 : decode cX_init 16 = .ok (.new 9, 3) := by decide +kernel
theorem dX_init_19 : decode cX_init 19 = .ok (.dup, 1) := by decide +kernel
theorem dX_init_20 : decode cX_init 20 = .ok (.invokespecial 11, 3) := by decide +kernel
theorem dX_init_23 : decode cX_init 23 = .ok (.putfield 16, 3) := by decide +kernel
theorem dX_init_26 : decode cX_init 26 = .ok (.aload_n 0, 1) := by decide +kernel
theorem dX_init_27 : decode cX_init 27 = .ok (.new 9, 3) := by decide +kernel
theorem dX_init_30 : decode cX_init 30 = .ok (.dup, 1) := by decide +kernel
theorem dX_init_31 : decode cX_init 31 = .ok (.invokespecial 11, 3) := by decide +kernel
theorem dX_init_34 : decode cX_init 34 = .ok (.putfield 19, 3) := by decide +kernel
theorem dX_init_37 : decode cX_init 37 = .ok (.aload_n 0, 1) := by decide +kernel
theorem dX_init_38 : decode cX_init 38 = .ok (.iconst 0, 1) := by decide +kernel
theorem dX_init_39 : decode cX_init 39 = .ok (.putfield 22, 3) := by decide +kernel
theorem dX_init_42 : decode cX_init 42 = .ok (.aload_n 0, 1) := by decide +kernel
theorem dX_init_43 : decode cX_init 43 = .ok (.new 26, 3) := by decide +kernel
theorem dX_init_46 : decode cX_init 46 = .ok (.dup, 1) := by decide +kernel
theorem dX_init_47 : decode cX_init 47 = .ok (.invokespecial 28, 3) := by decide +kernel
theorem dX_init_50 : decode cX_init 50 = .ok (.putfield 29, 3) := by decide +kernel
theorem dX_init_53 : decode cX_init 53 = .ok (.aload_n 0, 1) := by decide +kernel
theorem dX_init_54 : decode cX_init 54 = .ok (.new 33, 3) := by decide +kernel
theorem dX_init_57 : decode cX_init 57 = .ok (.dup, 1) := by decide +kernel
theorem dX_init_58 : decode cX_init 58 = .ok (.invokespecial 35, 3) := by decide +kernel
theorem dX_init_61 : decode cX_init 61 = .ok (.putfield 36, 3) := by decide +kernel
theorem dX_init_64 : decode cX_init 64 = .ok (.aload_n 0, 1) := by decide +kernel
theorem dX_init_65 : decode cX_init 65 = .ok (.bipush 12, 2) := by decide +kernel
theorem dX_init_67 : decode cX_init 67 = .ok (.newarray .int, 2) := by decide +kernel
theorem dX_init_69 : decode cX_init 69 = .ok (.putfield 40, 3) := by decide +kernel
theorem dX_init_72 : decode cX_init 72 = .ok (.aload_n 0, 1) := by decide +kernel
theorem dX_init_73 : decode cX_init 73 = .ok (.iconst 0, 1) := by decide +kernel
theorem dX_init_74 : decode cX_init 74 = .ok (.putfield 44, 3) := by decide +kernel
theorem dX_init_77 : decode cX_init 77 = .ok (.aload_n 0, 1) := by decide +kernel
theorem dX_init_78 : decode cX_init 78 = .ok (.bipush 7, 2) := by decide +kernel
theorem dX_init_80 : decode cX_init 80 = .ok (.newarray .int, 2) := by decide +kernel
theorem dX_init_82 : decode cX_init 82 = .ok (.putfield 48, 3) := by decide +kernel
theorem dX_init_85 : decode cX_init 85 = .ok (.return_, 1) := by decide +kernel
theorem dX_air_0 : decode cX_air 0 = .ok (.iload_n 1, 1) := by decide +kernel
theorem dX_air_1 : decode cX_air 1 = .ok (.invokestatic 66, 3) := by decide +kernel
theorem dX_air_4 : decode cX_air 4 = .ok (.ifCond .ne 9, 3) := by decide +kernel
theorem dX_air_7 : decode cX_air 7 = .ok (.aload_n 0, 1) := by decide +kernel
theorem dX_air_8 : decode cX_air 8 = .ok (.iconst (-1), 1) := by decide +kernel
theorem dX_air_9 : decode cX_air 9 = .ok (.invokevirtual 51, 3) := by decide +kernel
theorem dX_air_12 : decode cX_air 12 = .ok (.ireturn, 1) := by decide +kernel
theorem dX_air_13 : decode cX_air 13 = .ok (.iload_n 2, 1) := by decide +kernel
theorem dX_air_14 : decode cX_air 14 = .ok (.ifCond .ge 10, 3) := by decide +kernel
theorem dX_air_17 : decode cX_air 17 = .ok (.aload_n 0, 1) := by decide +kernel
theorem dX_air_18 : decode cX_air 18 = .ok (.bipush (-4), 2) := by decide +kernel
theorem dX_air_20 : decode cX_air 20 = .ok (.invokevirtual 51, 3) := by decide +kernel
theorem dX_air_23 : decode cX_air 23 = .ok (.ireturn, 1) := by decide +kernel
theorem dX_air_24 : decode cX_air 24 = .ok (.iload_n 2, 1) := by decide +kernel
theorem dX_air_25 : decode cX_air 25 = .ok (.bipush 99, 2) := by decide +kernel
theorem dX_air_27 : decode cX_air 27 = .ok (.if_icmp .le 10, 3) := by decide +kernel
theorem dX_air_30 : decode cX_air 30 = .ok (.aload_n 0, 1) := by decide +kernel
theorem dX_air_31 : decode cX_air 31 = .ok (.bipush (-6), 2) := by decide +kernel
theorem dX_air_33 : decode cX_air 33 = .ok (.invokevirtual 51, 3) := by decide +kernel
theorem dX_air_36 : decode cX_air 36 = .ok (.ireturn, 1) := by decide +kernel
theorem dX_air_37 : decode cX_air 37 = .ok (.aload_n 0, 1) := by decide +kernel
theorem dX_air_38 : decode cX_air 38 = .ok (.getfield 12, 3) := by decide +kernel
theorem dX_air_41 : decode cX_air 41 = .ok (.iload_n 1, 1) := by decide +kernel
theorem dX_air_42 : decode cX_air 42 = .ok (.aload_n 0, 1) := by decide +kernel
theorem dX_air_43 : decode cX_air 43 = .ok (.getfield 12, 3) := by decide +kernel
theorem dX_air_46 : decode cX_air 46 = .ok (.getfield 73, 3) := by decide +kernel
theorem dX_air_49 : decode cX_air 49 = .ok (.iload_n 1, 1) := by decide +kernel
theorem dX_air_50 : decode cX_air 50 = .ok (.iaload, 1) := by decide +kernel
theorem dX_air_51 : decode cX_air 51 = .ok (.iload_n 2, 1) := by decide +kernel
theorem dX_air_52 : decode cX_air 52 = .ok (.invokevirtual 132, 3) := by decide +kernel
theorem dX_air_55 : decode cX_air 55 = .ok (.ireturn, 1) := by decide +kernel
theorem dX_bare_0 : decode cX_bare 0 = .ok (.aload_n 0, 1) := by decide +kernel
theorem dX_bare_1 : decode cX_bare 1 = .ok (.getfield 12, 3) := by decide +kernel
theorem dX_bare_4 : decode cX_bare 4 = .ok (.invokevirtual 174, 3) := by decide +kernel
theorem dX_bare_7 : decode cX_bare 7 = .ok (.ireturn, 1) := by decide +kernel
theorem dX_bestNewLock_0 : decode cX_bestNewLock 0 = .ok (.bipush (-9), 2) := by decide +kernel
theorem dX_bestNewLock_2 : decode cX_bestNewLock 2 = .ok (.istore_n 1, 1) := by decide +kernel
theorem dX_bestNewLock_3 : decode cX_bestNewLock 3 = .ok (.ldc 207, 2) := by decide +kernel
theorem dX_bestNewLock_5 : decode cX_bestNewLock 5 = .ok (.istore_n 2, 1) := by decide +kernel
theorem dX_bestNewLock_6 : decode cX_bestNewLock 6 = .ok (.iconst 0, 1) := by decide +kernel
theorem dX_bestNewLock_7 : decode cX_bestNewLock 7 = .ok (.istore_n 3, 1) := by decide +kernel
theorem dX_bestNewLock_8 : decode cX_bestNewLock 8 = .ok (.iload_n 3, 1) := by decide +kernel
theorem dX_bestNewLock_9 : decode cX_bestNewLock 9 = .ok (.bipush 7, 2) := by decide +kernel
theorem dX_bestNewLock_11 : decode cX_bestNewLock 11 = .ok (.if_icmp .ge 57, 3) := by decide +kernel
theorem dX_bestNewLock_14 : decode cX_bestNewLock 14 = .ok (.iload_n 3, 1) := by decide +kernel
theorem dX_bestNewLock_15 : decode cX_bestNewLock 15 = .ok (.iconst 1, 1) := by decide +kernel
theorem dX_bestNewLock_16 : decode cX_bestNewLock 16 = .ok (.iadd, 1) := by decide +kernel
theorem dX_bestNewLock_17 : decode cX_bestNewLock 17 = .ok (.istore 4, 2) := by decide +kernel
theorem dX_bestNewLock_19 : decode cX_bestNewLock 19 = .ok (.iload 4, 2) := by decide +kernel
theorem dX_bestNewLock_21 : decode cX_bestNewLock 21 = .ok (.bipush 7, 2) := by decide +kernel
theorem dX_bestNewLock_23 : decode cX_bestNewLock 23 = .ok (.if_icmp .ge 39, 3) := by decide +kernel
theorem dX_bestNewLock_26 : decode cX_bestNewLock 26 = .ok (.aload_n 0, 1) := by decide +kernel
theorem dX_bestNewLock_27 : decode cX_bestNewLock 27 = .ok (.bipush 10, 2) := by decide +kernel
theorem dX_bestNewLock_29 : decode cX_bestNewLock 29 = .ok (.iload_n 3, 1) := by decide +kernel
theorem dX_bestNewLock_30 : decode cX_bestNewLock 30 = .ok (.imul, 1) := by decide +kernel
theorem dX_bestNewLock_31 : decode cX_bestNewLock 31 = .ok (.iload 4, 2) := by decide +kernel
theorem dX_bestNewLock_33 : decode cX_bestNewLock 33 = .ok (.iadd, 1) := by decide +kernel
theorem dX_bestNewLock_34 : decode cX_bestNewLock 34 = .ok (.invokevirtual 164, 3) := by decide +kernel
theorem dX_bestNewLock_37 : decode cX_bestNewLock 37 = .ok (.istore 5, 2) := by decide +kernel
theorem dX_bestNewLock_39 : decode cX_bestNewLock 39 = .ok (.iload 5, 2) := by decide +kernel
theorem dX_bestNewLock_41 : decode cX_bestNewLock 41 = .ok (.iload_n 2, 1) := by decide +kernel
theorem dX_bestNewLock_42 : decode cX_bestNewLock 42 = .ok (.if_icmp .ge 14, 3) := by decide +kernel
theorem dX_bestNewLock_45 : decode cX_bestNewLock 45 = .ok (.iload 5, 2) := by decide +kernel
theorem dX_bestNewLock_47 : decode cX_bestNewLock 47 = .ok (.istore_n 2, 1) := by decide +kernel
theorem dX_bestNewLock_48 : decode cX_bestNewLock 48 = .ok (.bipush 10, 2) := by decide +kernel
theorem dX_bestNewLock_50 : decode cX_bestNewLock 50 = .ok (.iload_n 3, 1) := by decide +kernel
theorem dX_bestNewLock_51 : decode cX_bestNewLock 51 = .ok (.imul, 1) := by decide +kernel
theorem dX_bestNewLock_52 : decode cX_bestNewLock 52 = .ok (.iload 4, 2) := by decide +kernel
theorem dX_bestNewLock_54 : decode cX_bestNewLock 54 = .ok (.iadd, 1) := by decide +kernel
theorem dX_bestNewLock_55 : decode cX_bestNewLock 55 = .ok (.istore_n 1, 1) := by decide +kernel
theorem dX_bestNewLock_56 : decode cX_bestNewLock 56 = .ok (.iinc 4 1, 3) := by decide +kernel
theorem dX_bestNewLock_59 : decode cX_bestNewLock 59 = .ok (.goto (-40), 3) := by decide +kernel
theorem dX_bestNewLock_62 : decode cX_bestNewLock 62 = .ok (.iinc 3 1, 3) := by decide +kernel
theorem dX_bestNewLock_65 : decode cX_bestNewLock 65 = .ok (.goto (-57), 3) := by decide +kernel
theorem dX_bestNewLock_68 : decode cX_bestNewLock 68 = .ok (.iload_n 1, 1) := by decide +kernel
theorem dX_bestNewLock_69 : decode cX_bestNewLock 69 = .ok (.ireturn, 1) := by decide +kernel
theorem dX_breathOfKind_0 : decode cX_breathOfKind 0 = .ok (.iload_n 0, 1) := by decide +kernel
theorem dX_breathOfKind_1 : decode cX_breathOfKind 1 = .ok (.tableswitch 59 0 5 #[39, 41, 43, 45, 47, 49], 39) := by decide +kernel
theorem dX_breathOfKind_40 : decode cX_breathOfKind 40 = .ok (.iconst 2, 1) := by decide +kernel
theorem dX_breathOfKind_41 : decode cX_breathOfKind 41 = .ok (.ireturn, 1) := by decide +kernel
theorem dX_breathOfKind_42 : decode cX_breathOfKind 42 = .ok (.iconst 1, 1) := by decide +kernel
theorem dX_breathOfKind_43 : decode cX_breathOfKind 43 = .ok (.ireturn, 1) := by decide +kernel
theorem dX_breathOfKind_44 : decode cX_breathOfKind 44 = .ok (.iconst 4, 1) := by decide +kernel
theorem dX_breathOfKind_45 : decode cX_breathOfKind 45 = .ok (.ireturn, 1) := by decide +kernel
theorem dX_breathOfKind_46 : decode cX_breathOfKind 46 = .ok (.iconst 3, 1) := by decide +kernel
theorem dX_breathOfKind_47 : decode cX_breathOfKind 47 = .ok (.ireturn, 1) := by decide +kernel
theorem dX_breathOfKind_48 : decode cX_breathOfKind 48 = .ok (.iconst 0, 1) := by decide +kernel
theorem dX_breathOfKind_49 : decode cX_breathOfKind 49 = .ok (.ireturn, 1) := by decide +kernel
theorem dX_breathOfKind_50 : decode cX_breathOfKind 50 = .ok (.iload_n 1, 1) := by decide +kernel
theorem dX_breathOfKind_51 : decode cX_breathOfKind 51 = .ok (.ifCond .eq 7, 3) := by decide +kernel
theorem dX_breathOfKind_54 : decode cX_breathOfKind 54 = .ok (.iconst 0, 1) := by decide +kernel
theorem dX_breathOfKind_55 : decode cX_breathOfKind 55 = .ok (.goto 4, 3) := by decide +kernel
theorem dX_breathOfKind_58 : decode cX_breathOfKind 58 = .ok (.iconst 1, 1) := by decide +kernel
theorem dX_breathOfKind_59 : decode cX_breathOfKind 59 = .ok (.ireturn, 1) := by decide +kernel
theorem dX_breathOfKind_60 : decode cX_breathOfKind 60 = .ok (.iconst 0, 1) := by decide +kernel
theorem dX_breathOfKind_61 : decode cX_breathOfKind 61 = .ok (.ireturn, 1) := by decide +kernel
theorem dX_burrow_0 : decode cX_burrow 0 = .ok (.aload_n 0, 1) := by decide +kernel
theorem dX_burrow_1 : decode cX_burrow 1 = .ok (.invokevirtual 62, 3) := by decide +kernel
theorem dX_burrow_4 : decode cX_burrow 4 = .ok (.istore_n 1, 1) := by decide +kernel
theorem dX_burrow_5 : decode cX_burrow 5 = .ok (.aload_n 0, 1) := by decide +kernel
theorem dX_burrow_6 : decode cX_burrow 6 = .ok (.getfield 29, 3) := by decide +kernel
theorem dX_burrow_9 : decode cX_burrow 9 = .ok (.iconst 0, 1) := by decide +kernel
theorem dX_burrow_10 : decode cX_burrow 10 = .ok (.putfield 55, 3) := by decide +kernel
theorem dX_burrow_13 : decode cX_burrow 13 = .ok (.iload_n 1, 1) := by decide +kernel
theorem dX_burrow_14 : decode cX_burrow 14 = .ok (.ireturn, 1) := by decide +kernel
theorem dX_clear_0 : decode cX_clear 0 = .ok (.aload_n 0, 1) := by decide +kernel
theorem dX_clear_1 : decode cX_clear 1 = .ok (.getfield 44, 3) := by decide +kernel
theorem dX_clear_4 : decode cX_clear 4 = .ok (.istore_n 1, 1) := by decide +kernel
theorem dX_clear_5 : decode cX_clear 5 = .ok (.aload_n 0, 1) := by decide +kernel
theorem dX_clear_6 : decode cX_clear 6 = .ok (.iconst 0, 1) := by decide +kernel
theorem dX_clear_7 : decode cX_clear 7 = .ok (.putfield 44, 3) := by decide +kernel
theorem dX_clear_10 : decode cX_clear 10 = .ok (.iload_n 1, 1) := by decide +kernel
theorem dX_clear_11 : decode cX_clear 11 = .ok (.ireturn, 1) := by decide +kernel
theorem dX_comesToMind_0 : decode cX_comesToMind 0 = .ok (.aload_n 0, 1) := by decide +kernel
theorem dX_comesToMind_1 : decode cX_comesToMind 1 = .ok (.getfield 29, 3) := by decide +kernel
theorem dX_comesToMind_4 : decode cX_comesToMind 4 = .ok (.iload_n 1, 1) := by decide +kernel
theorem dX_comesToMind_5 : decode cX_comesToMind 5 = .ok (.iconst 1, 1) := by decide +kernel
theorem dX_comesToMind_6 : decode cX_comesToMind 6 = .ok (.iadd, 1) := by decide +kernel
theorem dX_comesToMind_7 : decode cX_comesToMind 7 = .ok (.invokevirtual 217, 3) := by decide +kernel
theorem dX_comesToMind_10 : decode cX_comesToMind 10 = .ok (.istore_n 2, 1) := by decide +kernel
theorem dX_comesToMind_11 : decode cX_comesToMind 11 = .ok (.aload_n 0, 1) := by decide +kernel
theorem dX_comesToMind_12 : decode cX_comesToMind 12 = .ok (.getfield 29, 3) := by decide +kernel
theorem dX_comesToMind_15 : decode cX_comesToMind 15 = .ok (.iload_n 1, 1) := by decide +kernel
theorem dX_comesToMind_16 : decode cX_comesToMind 16 = .ok (.iconst 2, 1) := by decide +kernel
theorem dX_comesToMind_17 : decode cX_comesToMind 17 = .ok (.iadd, 1) := by decide +kernel
theorem dX_comesToMind_18 : decode cX_comesToMind 18 = .ok (.invokevirtual 217, 3) := by decide +kernel
theorem dX_comesToMind_21 : decode cX_comesToMind 21 = .ok (.istore_n 3, 1) := by decide +kernel
theorem dX_comesToMind_22 : decode cX_comesToMind 22 = .ok (.aload_n 0, 1) := by decide +kernel
theorem dX_comesToMind_23 : decode cX_comesToMind 23 = .ok (.getfield 29, 3) := by decide +kernel
theorem dX_comesToMind_26 : decode cX_comesToMind 26 = .ok (.iload_n 1, 1) := by decide +kernel
theorem dX_comesToMind_27 : decode cX_comesToMind 27 = .ok (.iconst 3, 1) := by decide +kernel
theorem dX_comesToMind_28 : decode cX_comesToMind 28 = .ok (.iadd, 1) := by decide +kernel
theorem dX_comesToMind_29 : decode cX_comesToMind 29 = .ok (.invokevirtual 217, 3) := by decide +kernel
theorem dX_comesToMind_32 : decode cX_comesToMind 32 = .ok (.istore 4, 2) := by decide +kernel
theorem dX_comesToMind_34 : decode cX_comesToMind 34 = .ok (.aload_n 0, 1) := by decide +kernel
theorem dX_comesToMind_35 : decode cX_comesToMind 35 = .ok (.getfield 29, 3) := by decide +kernel
theorem dX_comesToMind_38 : decode cX_comesToMind 38 = .ok (.iload_n 1, 1) := by decide +kernel
theorem dX_comesToMind_39 : decode cX_comesToMind 39 = .ok (.invokevirtual 220, 3) := by decide +kernel
theorem dX_comesToMind_42 : decode cX_comesToMind 42 = .ok (.tableswitch 145 107 115 #[69, 79, 145, 145, 145, 101, 145, 50, 135], 50) := by decide +kernel
theorem dX_comesToMind_92 : decode cX_comesToMind 92 = .ok (.aload_n 0, 1) := by decide +kernel
theorem dX_comesToMind_93 : decode cX_comesToMind 93 = .ok (.getfield 16, 3) := by decide +kernel
theorem dX_comesToMind_96 : decode cX_comesToMind 96 = .ok (.iload_n 2, 1) := by decide +kernel
theorem dX_comesToMind_97 : decode cX_comesToMind 97 = .ok (.aload_n 0, 1) := by decide +kernel
theorem dX_comesToMind_98 : decode cX_comesToMind 98 = .ok (.getfield 29, 3) := by decide +kernel
theorem dX_comesToMind_101 : decode cX_comesToMind 101 = .ok (.iload_n 1, 1) := by decide +kernel
theorem dX_comesToMind_102 : decode cX_comesToMind 102 = .ok (.iconst 3, 1) := by decide +kernel
theorem dX_comesToMind_103 : decode cX_comesToMind 103 = .ok (.iadd, 1) := by decide +kernel
theorem dX_comesToMind_104 : decode cX_comesToMind 104 = .ok (.invokevirtual 223, 3) := by decide +kernel
theorem dX_comesToMind_107 : decode cX_comesToMind 107 = .ok (.invokevirtual 226, 3) := by decide +kernel
theorem dX_comesToMind_110 : decode cX_comesToMind 110 = .ok (.ireturn, 1) := by decide +kernel
theorem dX_comesToMind_111 : decode cX_comesToMind 111 = .ok (.aload_n 0, 1) := by decide +kernel
theorem dX_comesToMind_112 : decode cX_comesToMind 112 = .ok (.getfield 16, 3) := by decide +kernel
theorem dX_comesToMind_115 : decode cX_comesToMind 115 = .ok (.iload_n 2, 1) := by decide +kernel
theorem dX_comesToMind_116 : decode cX_comesToMind 116 = .ok (.iload_n 3, 1) := by decide +kernel
theorem dX_comesToMind_117 : decode cX_comesToMind 117 = .ok (.invokevirtual 229, 3) := by decide +kernel
theorem dX_comesToMind_120 : decode cX_comesToMind 120 = .ok (.ireturn, 1) := by decide +kernel
theorem dX_comesToMind_121 : decode cX_comesToMind 121 = .ok (.aload_n 0, 1) := by decide +kernel
theorem dX_comesToMind_122 : decode cX_comesToMind 122 = .ok (.getfield 16, 3) := by decide +kernel
theorem dX_comesToMind_125 : decode cX_comesToMind 125 = .ok (.iload_n 2, 1) := by decide +kernel
theorem dX_comesToMind_126 : decode cX_comesToMind 126 = .ok (.iload_n 3, 1) := by decide +kernel
theorem dX_comesToMind_127 : decode cX_comesToMind 127 = .ok (.iload 4, 2) := by decide +kernel
theorem dX_comesToMind_129 : decode cX_comesToMind 129 = .ok (.aload_n 0, 1) := by decide +kernel
theorem dX_comesToMind_130 : decode cX_comesToMind 130 = .ok (.getfield 29, 3) := by decide +kernel
theorem dX_comesToMind_133 : decode cX_comesToMind 133 = .ok (.iload_n 1, 1) := by decide +kernel
theorem dX_comesToMind_134 : decode cX_comesToMind 134 = .ok (.iconst 4, 1) := by decide +kernel
theorem dX_comesToMind_135 : decode cX_comesToMind 135 = .ok (.iadd, 1) := by decide +kernel
theorem dX_comesToMind_136 : decode cX_comesToMind 136 = .ok (.invokevirtual 217, 3) := by decide +kernel
theorem dX_comesToMind_139 : decode cX_comesToMind 139 = .ok (.invokevirtual 232, 3) := by decide +kernel
theorem dX_comesToMind_142 : decode cX_comesToMind 142 = .ok (.ireturn, 1) := by decide +kernel
theorem dX_comesToMind_143 : decode cX_comesToMind 143 = .ok (.aload_n 0, 1) := by decide +kernel
theorem dX_comesToMind_144 : decode cX_comesToMind 144 = .ok (.getfield 16, 3) := by decide +kernel
theorem dX_comesToMind_147 : decode cX_comesToMind 147 = .ok (.aload_n 0, 1) := by decide +kernel
theorem dX_comesToMind_148 : decode cX_comesToMind 148 = .ok (.getfield 29, 3) := by decide +kernel
theorem dX_comesToMind_151 : decode cX_comesToMind 151 = .ok (.iload_n 1, 1) := by decide +kernel
theorem dX_comesToMind_152 : decode cX_comesToMind 152 = .ok (.iconst 1, 1) := by decide +kernel
theorem dX_comesToMind_153 : decode cX_comesToMind 153 = .ok (.iadd, 1) := by decide +kernel
theorem dX_comesToMind_154 : decode cX_comesToMind 154 = .ok (.invokevirtual 220, 3) := by decide +kernel
theorem dX_comesToMind_157 : decode cX_comesToMind 157 = .ok (.invokestatic 236, 3) := by decide +kernel
theorem dX_comesToMind_160 : decode cX_comesToMind 160 = .ok (.iload_n 3, 1) := by decide +kernel
theorem dX_comesToMind_161 : decode cX_comesToMind 161 = .ok (.iload 4, 2) := by decide +kernel
theorem dX_comesToMind_163 : decode cX_comesToMind 163 = .ok (.aload_n 0, 1) := by decide +kernel
theorem dX_comesToMind_164 : decode cX_comesToMind 164 = .ok (.getfield 29, 3) := by decide +kernel
theorem dX_comesToMind_167 : decode cX_comesToMind 167 = .ok (.iload_n 1, 1) := by decide +kernel
theorem dX_comesToMind_168 : decode cX_comesToMind 168 = .ok (.iconst 5, 1) := by decide +kernel
theorem dX_comesToMind_169 : decode cX_comesToMind 169 = .ok (.iadd, 1) := by decide +kernel
theorem dX_comesToMind_170 : decode cX_comesToMind 170 = .ok (.invokevirtual 223, 3) := by decide +kernel
theorem dX_comesToMind_173 : decode cX_comesToMind 173 = .ok (.invokevirtual 239, 3) := by decide +kernel
theorem dX_comesToMind_176 : decode cX_comesToMind 176 = .ok (.ireturn, 1) := by decide +kernel
theorem dX_comesToMind_177 : decode cX_comesToMind 177 = .ok (.aload_n 0, 1) := by decide +kernel
theorem dX_comesToMind_178 : decode cX_comesToMind 178 = .ok (.getfield 16, 3) := by decide +kernel
theorem dX_comesToMind_181 : decode cX_comesToMind 181 = .ok (.iload_n 2, 1) := by decide +kernel
theorem dX_comesToMind_182 : decode cX_comesToMind 182 = .ok (.iload_n 3, 1) := by decide +kernel
theorem dX_comesToMind_183 : decode cX_comesToMind 183 = .ok (.invokevirtual 242, 3) := by decide +kernel
theorem dX_comesToMind_186 : decode cX_comesToMind 186 = .ok (.ireturn, 1) := by decide +kernel
theorem dX_comesToMind_187 : decode cX_comesToMind 187 = .ok (.iconst 0, 1) := by decide +kernel
theorem dX_comesToMind_188 : decode cX_comesToMind 188 = .ok (.ireturn, 1) := by decide +kernel
theorem dX_count_0 : decode cX_count 0 = .ok (.iload_n 1, 1) := by decide +kernel
theorem dX_count_1 : decode cX_count 1 = .ok (.tableswitch 114 0 7 #[47, 55, 63, 71, 82, 93, 101, 106], 47) := by decide +kernel
theorem dX_count_48 : decode cX_count 48 = .ok (.aload_n 0, 1) := by decide +kernel
theorem dX_count_49 : decode cX_count 49 = .ok (.getfield 12, 3) := by decide +kernel
theorem dX_count_52 : decode cX_count 52 = .ok (.getfield 197, 3) := by decide +kernel
theorem dX_count_55 : decode cX_count 55 = .ok (.ireturn, 1) := by decide +kernel
theorem dX_count_56 : decode cX_count 56 = .ok (.aload_n 0, 1) := by decide +kernel
theorem dX_count_57 : decode cX_count 57 = .ok (.getfield 12, 3) := by decide +kernel
theorem dX_count_60 : decode cX_count 60 = .ok (.getfield 171, 3) := by decide +kernel
theorem dX_count_63 : decode cX_count 63 = .ok (.ireturn, 1) := by decide +kernel
theorem dX_count_64 : decode cX_count 64 = .ok (.aload_n 0, 1) := by decide +kernel
theorem dX_count_65 : decode cX_count 65 = .ok (.getfield 12, 3) := by decide +kernel
theorem dX_count_68 : decode cX_count 68 = .ok (.getfield 122, 3) := by decide +kernel
theorem dX_count_71 : decode cX_count 71 = .ok (.ireturn, 1) := by decide +kernel
theorem dX_count_72 : decode cX_count 72 = .ok (.aload_n 0, 1) := by decide +kernel
theorem dX_count_73 : decode cX_count 73 = .ok (.getfield 12, 3) := by decide +kernel
theorem dX_count_76 : decode cX_count 76 = .ok (.getfield 70, 3) := by decide +kernel
theorem dX_count_79 : decode cX_count 79 = .ok (.invokestatic 203, 3) := by decide +kernel
theorem dX_count_82 : decode cX_count 82 = .ok (.ireturn, 1) := by decide +kernel
theorem dX_count_83 : decode cX_count 83 = .ok (.aload_n 0, 1) := by decide +kernel
theorem dX_count_84 : decode cX_count 84 = .ok (.getfield 12, 3) := by decide +kernel
theorem dX_count_87 : decode cX_count 87 = .ok (.getfield 73, 3) := by decide +kernel
theorem dX_count_90 : decode cX_count 90 = .ok (.invokestatic 203, 3) := by decide +kernel
theorem dX_count_93 : decode cX_count 93 = .ok (.ireturn, 1) := by decide +kernel
theorem dX_count_94 : decode cX_count 94 = .ok (.aload_n 0, 1) := by decide +kernel
theorem dX_count_95 : decode cX_count 95 = .ok (.getfield 12, 3) := by decide +kernel
theorem dX_count_98 : decode cX_count 98 = .ok (.getfield 194, 3) := by decide +kernel
theorem dX_count_101 : decode cX_count 101 = .ok (.ireturn, 1) := by decide +kernel
theorem dX_count_102 : decode cX_count 102 = .ok (.aload_n 0, 1) := by decide +kernel
theorem dX_count_103 : decode cX_count 103 = .ok (.getfield 44, 3) := by decide +kernel
theorem dX_count_106 : decode cX_count 106 = .ok (.ireturn, 1) := by decide +kernel
theorem dX_count_107 : decode cX_count 107 = .ok (.aload_n 0, 1) := by decide +kernel
theorem dX_count_108 : decode cX_count 108 = .ok (.getfield 29, 3) := by decide +kernel
theorem dX_count_111 : decode cX_count 111 = .ok (.getfield 55, 3) := by decide +kernel
theorem dX_count_114 : decode cX_count 114 = .ok (.ireturn, 1) := by decide +kernel
theorem dX_count_115 : decode cX_count 115 = .ok (.iload_n 1, 1) := by decide +kernel
theorem dX_count_116 : decode cX_count 116 = .ok (.bipush 10, 2) := by decide +kernel
theorem dX_count_118 : decode cX_count 118 = .ok (.if_icmp .le 21, 3) := by decide +kernel
theorem dX_count_121 : decode cX_count 121 = .ok (.iload_n 1, 1) := by decide +kernel
theorem dX_count_122 : decode cX_count 122 = .ok (.bipush 16, 2) := by decide +kernel
theorem dX_count_124 : decode cX_count 124 = .ok (.if_icmp .gt 15, 3) := by decide +kernel
theorem dX_count_127 : decode cX_count 127 = .ok (.aload_n 0, 1) := by decide +kernel
theorem dX_count_128 : decode cX_count 128 = .ok (.getfield 48, 3) := by decide +kernel
theorem dX_count_131 : decode cX_count 131 = .ok (.iload_n 1, 1) := by decide +kernel
theorem dX_count_132 : decode cX_count 132 = .ok (.bipush 10, 2) := by decide +kernel
theorem dX_count_134 : decode cX_count 134 = .ok (.isub, 1) := by decide +kernel
theorem dX_count_135 : decode cX_count 135 = .ok (.iaload, 1) := by decide +kernel
theorem dX_count_136 : decode cX_count 136 = .ok (.goto 5, 3) := by decide +kernel
theorem dX_count_139 : decode cX_count 139 = .ok (.bipush (-9), 2) := by decide +kernel
theorem dX_count_141 : decode cX_count 141 = .ok (.ireturn, 1) := by decide +kernel
theorem dX_drawn_0 : decode cX_drawn 0 = .ok (.iload_n 1, 1) := by decide +kernel
theorem dX_drawn_1 : decode cX_drawn 1 = .ok (.ifCond .le 17, 3) := by decide +kernel
theorem dX_drawn_4 : decode cX_drawn 4 = .ok (.iload_n 0, 1) := by decide +kernel
theorem dX_drawn_5 : decode cX_drawn 5 = .ok (.ldc_w 262, 3) := by decide +kernel
theorem dX_drawn_8 : decode cX_drawn 8 = .ok (.iand, 1) := by decide +kernel
theorem dX_drawn_9 : decode cX_drawn 9 = .ok (.sipush 256, 3) := by decide +kernel
theorem dX_drawn_12 : decode cX_drawn 12 = .ok (.idiv, 1) := by decide +kernel
theorem dX_drawn_13 : decode cX_drawn 13 = .ok (.iload_n 1, 1) := by decide +kernel
theorem dX_drawn_14 : decode cX_drawn 14 = .ok (.irem, 1) := by decide +kernel
theorem dX_drawn_15 : decode cX_drawn 15 = .ok (.goto 4, 3) := by decide +kernel
theorem dX_drawn_18 : decode cX_drawn 18 = .ok (.iconst 0, 1) := by decide +kernel
theorem dX_drawn_19 : decode cX_drawn 19 = .ok (.ireturn, 1) := by decide +kernel
theorem dX_ends_0 : decode cX_ends 0 = .ok (.aload_n 0, 1) := by decide +kernel
theorem dX_ends_1 : decode cX_ends 1 = .ok (.invokevirtual 191, 3) := by decide +kernel
theorem dX_ends_4 : decode cX_ends 4 = .ok (.pop, 1) := by decide +kernel
theorem dX_ends_5 : decode cX_ends 5 = .ok (.aload_n 0, 1) := by decide +kernel
theorem dX_ends_6 : decode cX_ends 6 = .ok (.getfield 16, 3) := by decide +kernel
theorem dX_ends_9 : decode cX_ends 9 = .ok (.getfield 194, 3) := by decide +kernel
theorem dX_ends_12 : decode cX_ends 12 = .ok (.aload_n 0, 1) := by decide +kernel
theorem dX_ends_13 : decode cX_ends 13 = .ok (.getfield 12, 3) := by decide +kernel
theorem dX_ends_16 : decode cX_ends 16 = .ok (.getfield 194, 3) := by decide +kernel
theorem dX_ends_19 : decode cX_ends 19 = .ok (.isub, 1) := by decide +kernel
theorem dX_ends_20 : decode cX_ends 20 = .ok (.ireturn, 1) := by decide +kernel
theorem dX_errands_0 : decode cX_errands 0 = .ok (.iload_n 1, 1) := by decide +kernel
theorem dX_errands_1 : decode cX_errands 1 = .ok (.invokestatic 143, 3) := by decide +kernel
theorem dX_errands_4 : decode cX_errands 4 = .ok (.ifCond .eq 14, 3) := by decide +kernel
theorem dX_errands_7 : decode cX_errands 7 = .ok (.iload_n 2, 1) := by decide +kernel
theorem dX_errands_8 : decode cX_errands 8 = .ok (.ifCond .lt 10, 3) := by decide +kernel
theorem dX_errands_11 : decode cX_errands 11 = .ok (.iload_n 2, 1) := by decide +kernel
theorem dX_errands_12 : decode cX_errands 12 = .ok (.sipush 128, 3) := by decide +kernel
theorem dX_errands_15 : decode cX_errands 15 = .ok (.if_icmp .lt 9, 3) := by decide +kernel
theorem dX_errands_18 : decode cX_errands 18 = .ok (.aload_n 0, 1) := by decide +kernel
theorem dX_errands_19 : decode cX_errands 19 = .ok (.iconst (-1), 1) := by decide +kernel
theorem dX_errands_20 : decode cX_errands 20 = .ok (.invokevirtual 51, 3) := by decide +kernel
theorem dX_errands_23 : decode cX_errands 23 = .ok (.ireturn, 1) := by decide +kernel
theorem dX_errands_24 : decode cX_errands 24 = .ok (.aload_n 0, 1) := by decide +kernel
theorem dX_errands_25 : decode cX_errands 25 = .ok (.getfield 36, 3) := by decide +kernel
theorem dX_errands_28 : decode cX_errands 28 = .ok (.aload_n 0, 1) := by decide +kernel
theorem dX_errands_29 : decode cX_errands 29 = .ok (.getfield 12, 3) := by decide +kernel
theorem dX_errands_32 : decode cX_errands 32 = .ok (.invokevirtual 146, 3) := by decide +kernel
theorem dX_errands_35 : decode cX_errands 35 = .ok (.aload_n 0, 1) := by decide +kernel
theorem dX_errands_36 : decode cX_errands 36 = .ok (.getfield 36, 3) := by decide +kernel
theorem dX_errands_39 : decode cX_errands 39 = .ok (.iload_n 1, 1) := by decide +kernel
theorem dX_errands_40 : decode cX_errands 40 = .ok (.iload_n 2, 1) := by decide +kernel
theorem dX_errands_41 : decode cX_errands 41 = .ok (.invokevirtual 167, 3) := by decide +kernel
theorem dX_errands_44 : decode cX_errands 44 = .ok (.invokestatic 152, 3) := by decide +kernel
theorem dX_errands_47 : decode cX_errands 47 = .ok (.ireturn, 1) := by decide +kernel
theorem dX_farthest_0 : decode cX_farthest 0 = .ok (.iload_n 1, 1) := by decide +kernel
theorem dX_farthest_1 : decode cX_farthest 1 = .ok (.ifCond .eq 15, 3) := by decide +kernel
theorem dX_farthest_4 : decode cX_farthest 4 = .ok (.iload_n 1, 1) := by decide +kernel
theorem dX_farthest_5 : decode cX_farthest 5 = .ok (.iconst 1, 1) := by decide +kernel
theorem dX_farthest_6 : decode cX_farthest 6 = .ok (.if_icmp .eq 10, 3) := by decide +kernel
theorem dX_farthest_9 : decode cX_farthest 9 = .ok (.aload_n 0, 1) := by decide +kernel
theorem dX_farthest_10 : decode cX_farthest 10 = .ok (.bipush (-2), 2) := by decide +kernel
theorem dX_farthest_12 : decode cX_farthest 12 = .ok (.invokevirtual 51, 3) := by decide +kernel
theorem dX_farthest_15 : decode cX_farthest 15 = .ok (.ireturn, 1) := by decide +kernel
theorem dX_farthest_16 : decode cX_farthest 16 = .ok (.aload_n 0, 1) := by decide +kernel
theorem dX_farthest_17 : decode cX_farthest 17 = .ok (.getfield 36, 3) := by decide +kernel
theorem dX_farthest_20 : decode cX_farthest 20 = .ok (.aload_n 0, 1) := by decide +kernel
theorem dX_farthest_21 : decode cX_farthest 21 = .ok (.getfield 12, 3) := by decide +kernel
theorem dX_farthest_24 : decode cX_farthest 24 = .ok (.invokevirtual 146, 3) := by decide +kernel
theorem dX_farthest_27 : decode cX_farthest 27 = .ok (.aload_n 0, 1) := by decide +kernel
theorem dX_farthest_28 : decode cX_farthest 28 = .ok (.getfield 36, 3) := by decide +kernel
theorem dX_farthest_31 : decode cX_farthest 31 = .ok (.invokevirtual 158, 3) := by decide +kernel
theorem dX_farthest_34 : decode cX_farthest 34 = .ok (.istore_n 2, 1) := by decide +kernel
theorem dX_farthest_35 : decode cX_farthest 35 = .ok (.iload_n 2, 1) := by decide +kernel
theorem dX_farthest_36 : decode cX_farthest 36 = .ok (.invokestatic 66, 3) := by decide +kernel
theorem dX_farthest_39 : decode cX_farthest 39 = .ok (.ifCond .ne 6, 3) := by decide +kernel
theorem dX_farthest_42 : decode cX_farthest 42 = .ok (.bipush (-9), 2) := by decide +kernel
theorem dX_farthest_44 : decode cX_farthest 44 = .ok (.ireturn, 1) := by decide +kernel
theorem dX_farthest_45 : decode cX_farthest 45 = .ok (.iload_n 1, 1) := by decide +kernel
theorem dX_farthest_46 : decode cX_farthest 46 = .ok (.ifCond .ne 7, 3) := by decide +kernel
theorem dX_farthest_49 : decode cX_farthest 49 = .ok (.iload_n 2, 1) := by decide +kernel
theorem dX_farthest_50 : decode cX_farthest 50 = .ok (.goto 15, 3) := by decide +kernel
theorem dX_farthest_53 : decode cX_farthest 53 = .ok (.aload_n 0, 1) := by decide +kernel
theorem dX_farthest_54 : decode cX_farthest 54 = .ok (.getfield 36, 3) := by decide +kernel
theorem dX_farthest_57 : decode cX_farthest 57 = .ok (.getfield 149, 3) := by decide +kernel
theorem dX_farthest_60 : decode cX_farthest 60 = .ok (.bipush 6, 2) := by decide +kernel
theorem dX_farthest_62 : decode cX_farthest 62 = .ok (.aaload, 1) := by decide +kernel
theorem dX_farthest_63 : decode cX_farthest 63 = .ok (.iload_n 2, 1) := by decide +kernel
theorem dX_farthest_64 : decode cX_farthest 64 = .ok (.iaload, 1) := by decide +kernel
theorem dX_farthest_65 : decode cX_farthest 65 = .ok (.ireturn, 1) := by decide +kernel
theorem dX_firstToLeak_0 : decode cX_firstToLeak 0 = .ok (.aload_n 0, 1) := by decide +kernel
theorem dX_firstToLeak_1 : decode cX_firstToLeak 1 = .ok (.iload_n 1, 1) := by decide +kernel
theorem dX_firstToLeak_2 : decode cX_firstToLeak 2 = .ok (.invokevirtual 188, 3) := by decide +kernel
theorem dX_firstToLeak_5 : decode cX_firstToLeak 5 = .ok (.istore_n 2, 1) := by decide +kernel
theorem dX_firstToLeak_6 : decode cX_firstToLeak 6 = .ok (.iconst 0, 1) := by decide +kernel
theorem dX_firstToLeak_7 : decode cX_firstToLeak 7 = .ok (.istore_n 3, 1) := by decide +kernel
theorem dX_firstToLeak_8 : decode cX_firstToLeak 8 = .ok (.iload_n 3, 1) := by decide +kernel
theorem dX_firstToLeak_9 : decode cX_firstToLeak 9 = .ok (.bipush 6, 2) := by decide +kernel
theorem dX_firstToLeak_11 : decode cX_firstToLeak 11 = .ok (.if_icmp .ge 45, 3) := by decide +kernel
theorem dX_firstToLeak_14 : decode cX_firstToLeak 14 = .ok (.iconst 0, 1) := by decide +kernel
theorem dX_firstToLeak_15 : decode cX_firstToLeak 15 = .ok (.istore 4, 2) := by decide +kernel
theorem dX_firstToLeak_17 : decode cX_firstToLeak 17 = .ok (.iload 4, 2) := by decide +kernel
theorem dX_firstToLeak_19 : decode cX_firstToLeak 19 = .ok (.bipush 9, 2) := by decide +kernel
theorem dX_firstToLeak_21 : decode cX_firstToLeak 21 = .ok (.if_icmp .gt 29, 3) := by decide +kernel
theorem dX_firstToLeak_24 : decode cX_firstToLeak 24 = .ok (.aload_n 0, 1) := by decide +kernel
theorem dX_firstToLeak_25 : decode cX_firstToLeak 25 = .ok (.iload_n 3, 1) := by decide +kernel
theorem dX_firstToLeak_26 : decode cX_firstToLeak 26 = .ok (.iload 4, 2) := by decide +kernel
theorem dX_firstToLeak_28 : decode cX_firstToLeak 28 = .ok (.iload_n 1, 1) := by decide +kernel
theorem dX_firstToLeak_29 : decode cX_firstToLeak 29 = .ok (.iload_n 2, 1) := by decide +kernel
theorem dX_firstToLeak_30 : decode cX_firstToLeak 30 = .ok (.invokevirtual 251, 3) := by decide +kernel
theorem dX_firstToLeak_33 : decode cX_firstToLeak 33 = .ok (.ifCond .eq 11, 3) := by decide +kernel
theorem dX_firstToLeak_36 : decode cX_firstToLeak 36 = .ok (.bipush 10, 2) := by decide +kernel
theorem dX_firstToLeak_38 : decode cX_firstToLeak 38 = .ok (.iload_n 3, 1) := by decide +kernel
theorem dX_firstToLeak_39 : decode cX_firstToLeak 39 = .ok (.imul, 1) := by decide +kernel
theorem dX_firstToLeak_40 : decode cX_firstToLeak 40 = .ok (.iload 4, 2) := by decide +kernel
theorem dX_firstToLeak_42 : decode cX_firstToLeak 42 = .ok (.iadd, 1) := by decide +kernel
theorem dX_firstToLeak_43 : decode cX_firstToLeak 43 = .ok (.ireturn, 1) := by decide +kernel
theorem dX_firstToLeak_44 : decode cX_firstToLeak 44 = .ok (.iinc 4 1, 3) := by decide +kernel
theorem dX_firstToLeak_47 : decode cX_firstToLeak 47 = .ok (.goto (-30), 3) := by decide +kernel
theorem dX_firstToLeak_50 : decode cX_firstToLeak 50 = .ok (.iinc 3 1, 3) := by decide +kernel
theorem dX_firstToLeak_53 : decode cX_firstToLeak 53 = .ok (.goto (-45), 3) := by decide +kernel
theorem dX_firstToLeak_56 : decode cX_firstToLeak 56 = .ok (.bipush (-9), 2) := by decide +kernel
theorem dX_firstToLeak_58 : decode cX_firstToLeak 58 = .ok (.ireturn, 1) := by decide +kernel
theorem dX_fitted_0 : decode cX_fitted 0 = .ok (.aload_n 0, 1) := by decide +kernel
theorem dX_fitted_1 : decode cX_fitted 1 = .ok (.getfield 12, 3) := by decide +kernel
theorem dX_fitted_4 : decode cX_fitted 4 = .ok (.getfield 171, 3) := by decide +kernel
theorem dX_fitted_7 : decode cX_fitted 7 = .ok (.aload_n 0, 1) := by decide +kernel
theorem dX_fitted_8 : decode cX_fitted 8 = .ok (.getfield 12, 3) := by decide +kernel
theorem dX_fitted_11 : decode cX_fitted 11 = .ok (.invokevirtual 174, 3) := by decide +kernel
theorem dX_fitted_14 : decode cX_fitted 14 = .ok (.invokestatic 177, 3) := by decide +kernel
theorem dX_fitted_17 : decode cX_fitted 17 = .ok (.isub, 1) := by decide +kernel
theorem dX_fitted_18 : decode cX_fitted 18 = .ok (.ireturn, 1) := by decide +kernel
theorem dX_gasps_0 : decode cX_gasps 0 = .ok (.iload_n 1, 1) := by decide +kernel
theorem dX_gasps_1 : decode cX_gasps 1 = .ok (.ifCond .ge 10, 3) := by decide +kernel
theorem dX_gasps_4 : decode cX_gasps 4 = .ok (.aload_n 0, 1) := by decide +kernel
theorem dX_gasps_5 : decode cX_gasps 5 = .ok (.bipush (-4), 2) := by decide +kernel
theorem dX_gasps_7 : decode cX_gasps 7 = .ok (.invokevirtual 51, 3) := by decide +kernel
theorem dX_gasps_10 : decode cX_gasps 10 = .ok (.ireturn, 1) := by decide +kernel
theorem dX_gasps_11 : decode cX_gasps 11 = .ok (.iload_n 1, 1) := by decide +kernel
theorem dX_gasps_12 : decode cX_gasps 12 = .ok (.bipush 99, 2) := by decide +kernel
theorem dX_gasps_14 : decode cX_gasps 14 = .ok (.if_icmp .le 10, 3) := by decide +kernel
theorem dX_gasps_17 : decode cX_gasps 17 = .ok (.aload_n 0, 1) := by decide +kernel
theorem dX_gasps_18 : decode cX_gasps 18 = .ok (.bipush (-6), 2) := by decide +kernel
theorem dX_gasps_20 : decode cX_gasps 20 = .ok (.invokevirtual 51, 3) := by decide +kernel
theorem dX_gasps_23 : decode cX_gasps 23 = .ok (.ireturn, 1) := by decide +kernel
theorem dX_gasps_24 : decode cX_gasps 24 = .ok (.aload_n 0, 1) := by decide +kernel
theorem dX_gasps_25 : decode cX_gasps 25 = .ok (.getfield 16, 3) := by decide +kernel
theorem dX_gasps_28 : decode cX_gasps 28 = .ok (.aload_n 0, 1) := by decide +kernel
theorem dX_gasps_29 : decode cX_gasps 29 = .ok (.getfield 12, 3) := by decide +kernel
theorem dX_gasps_32 : decode cX_gasps 32 = .ok (.invokevirtual 136, 3) := by decide +kernel
theorem dX_gasps_35 : decode cX_gasps 35 = .ok (.aload_n 0, 1) := by decide +kernel
theorem dX_gasps_36 : decode cX_gasps 36 = .ok (.getfield 16, 3) := by decide +kernel
theorem dX_gasps_39 : decode cX_gasps 39 = .ok (.iload_n 1, 1) := by decide +kernel
theorem dX_gasps_40 : decode cX_gasps 40 = .ok (.invokevirtual 129, 3) := by decide +kernel
theorem dX_gasps_43 : decode cX_gasps 43 = .ok (.ireturn, 1) := by decide +kernel
theorem dX_gauges_0 : decode cX_gauges 0 = .ok (.iload_n 1, 1) := by decide +kernel
theorem dX_gauges_1 : decode cX_gauges 1 = .ok (.ifCond .ge 10, 3) := by decide +kernel
theorem dX_gauges_4 : decode cX_gauges 4 = .ok (.aload_n 0, 1) := by decide +kernel
theorem dX_gauges_5 : decode cX_gauges 5 = .ok (.bipush (-4), 2) := by decide +kernel
theorem dX_gauges_7 : decode cX_gauges 7 = .ok (.invokevirtual 51, 3) := by decide +kernel
theorem dX_gauges_10 : decode cX_gauges 10 = .ok (.ireturn, 1) := by decide +kernel
theorem dX_gauges_11 : decode cX_gauges 11 = .ok (.iload_n 1, 1) := by decide +kernel
theorem dX_gauges_12 : decode cX_gauges 12 = .ok (.bipush 99, 2) := by decide +kernel
theorem dX_gauges_14 : decode cX_gauges 14 = .ok (.if_icmp .le 10, 3) := by decide +kernel
theorem dX_gauges_17 : decode cX_gauges 17 = .ok (.aload_n 0, 1) := by decide +kernel
theorem dX_gauges_18 : decode cX_gauges 18 = .ok (.bipush (-6), 2) := by decide +kernel
theorem dX_gauges_20 : decode cX_gauges 20 = .ok (.invokevirtual 51, 3) := by decide +kernel
theorem dX_gauges_23 : decode cX_gauges 23 = .ok (.ireturn, 1) := by decide +kernel
theorem dX_gauges_24 : decode cX_gauges 24 = .ok (.iload_n 2, 1) := by decide +kernel
theorem dX_gauges_25 : decode cX_gauges 25 = .ok (.ifCond .lt 8, 3) := by decide +kernel
theorem dX_gauges_28 : decode cX_gauges 28 = .ok (.iload_n 2, 1) := by decide +kernel
theorem dX_gauges_29 : decode cX_gauges 29 = .ok (.iconst 2, 1) := by decide +kernel
theorem dX_gauges_30 : decode cX_gauges 30 = .ok (.if_icmp .le 10, 3) := by decide +kernel
theorem dX_gauges_33 : decode cX_gauges 33 = .ok (.aload_n 0, 1) := by decide +kernel
theorem dX_gauges_34 : decode cX_gauges 34 = .ok (.bipush (-2), 2) := by decide +kernel
theorem dX_gauges_36 : decode cX_gauges 36 = .ok (.invokevirtual 51, 3) := by decide +kernel
theorem dX_gauges_39 : decode cX_gauges 39 = .ok (.ireturn, 1) := by decide +kernel
theorem dX_gauges_40 : decode cX_gauges 40 = .ok (.aload_n 0, 1) := by decide +kernel
theorem dX_gauges_41 : decode cX_gauges 41 = .ok (.getfield 44, 3) := by decide +kernel
theorem dX_gauges_44 : decode cX_gauges 44 = .ok (.bipush 6, 2) := by decide +kernel
theorem dX_gauges_46 : decode cX_gauges 46 = .ok (.if_icmp .eq 10, 3) := by decide +kernel
theorem dX_gauges_49 : decode cX_gauges 49 = .ok (.aload_n 0, 1) := by decide +kernel
theorem dX_gauges_50 : decode cX_gauges 50 = .ok (.bipush (-3), 2) := by decide +kernel
theorem dX_gauges_52 : decode cX_gauges 52 = .ok (.invokevirtual 51, 3) := by decide +kernel
theorem dX_gauges_55 : decode cX_gauges 55 = .ok (.ireturn, 1) := by decide +kernel
theorem dX_gauges_56 : decode cX_gauges 56 = .ok (.iload_n 2, 1) := by decide +kernel
theorem dX_gauges_57 : decode cX_gauges 57 = .ok (.lookupswitch 39 #[(0, 27), (1, 33)], 27) := by decide +kernel
theorem dX_gauges_84 : decode cX_gauges 84 = .ok (.aload_n 0, 1) := by decide +kernel
theorem dX_gauges_85 : decode cX_gauges 85 = .ok (.iload_n 1, 1) := by decide +kernel
theorem dX_gauges_86 : decode cX_gauges 86 = .ok (.invokevirtual 182, 3) := by decide +kernel
theorem dX_gauges_89 : decode cX_gauges 89 = .ok (.ireturn, 1) := by decide +kernel
theorem dX_gauges_90 : decode cX_gauges 90 = .ok (.aload_n 0, 1) := by decide +kernel
theorem dX_gauges_91 : decode cX_gauges 91 = .ok (.iload_n 1, 1) := by decide +kernel
theorem dX_gauges_92 : decode cX_gauges 92 = .ok (.invokevirtual 185, 3) := by decide +kernel
theorem dX_gauges_95 : decode cX_gauges 95 = .ok (.ireturn, 1) := by decide +kernel
theorem dX_gauges_96 : decode cX_gauges 96 = .ok (.aload_n 0, 1) := by decide +kernel
theorem dX_gauges_97 : decode cX_gauges 97 = .ok (.iload_n 1, 1) := by decide +kernel
theorem dX_gauges_98 : decode cX_gauges 98 = .ok (.invokevirtual 188, 3) := by decide +kernel
theorem dX_gauges_101 : decode cX_gauges 101 = .ok (.ifCond .ne 7, 3) := by decide +kernel
theorem dX_gauges_104 : decode cX_gauges 104 = .ok (.iconst 1, 1) := by decide +kernel
theorem dX_gauges_105 : decode cX_gauges 105 = .ok (.goto 4, 3) := by decide +kernel
theorem dX_gauges_108 : decode cX_gauges 108 = .ok (.iconst 0, 1) := by decide +kernel
theorem dX_gauges_109 : decode cX_gauges 109 = .ok (.ireturn, 1) := by decide +kernel
theorem dX_image_0 : decode cX_image 0 = .ok (.aload_n 0, 1) := by decide +kernel
theorem dX_image_1 : decode cX_image 1 = .ok (.getfield 19, 3) := by decide +kernel
theorem dX_image_4 : decode cX_image 4 = .ok (.aload_n 0, 1) := by decide +kernel
theorem dX_image_5 : decode cX_image 5 = .ok (.getfield 12, 3) := by decide +kernel
theorem dX_image_8 : decode cX_image 8 = .ok (.invokevirtual 136, 3) := by decide +kernel
theorem dX_image_11 : decode cX_image 11 = .ok (.aload_n 0, 1) := by decide +kernel
theorem dX_image_12 : decode cX_image 12 = .ok (.iconst 1, 1) := by decide +kernel
theorem dX_image_13 : decode cX_image 13 = .ok (.putfield 22, 3) := by decide +kernel
theorem dX_image_16 : decode cX_image 16 = .ok (.aload_n 0, 1) := by decide +kernel
theorem dX_image_17 : decode cX_image 17 = .ok (.getfield 12, 3) := by decide +kernel
theorem dX_image_20 : decode cX_image 20 = .ok (.getfield 122, 3) := by decide +kernel
theorem dX_image_23 : decode cX_image 23 = .ok (.ireturn, 1) := by decide +kernel
theorem dX_isAsTold_0 : decode cX_isAsTold 0 = .ok (.iload_n 1, 1) := by decide +kernel
theorem dX_isAsTold_1 : decode cX_isAsTold 1 = .ok (.invokestatic 66, 3) := by decide +kernel
theorem dX_isAsTold_4 : decode cX_isAsTold 4 = .ok (.ifCond .eq 26, 3) := by decide +kernel
theorem dX_isAsTold_7 : decode cX_isAsTold 7 = .ok (.aload_n 0, 1) := by decide +kernel
theorem dX_isAsTold_8 : decode cX_isAsTold 8 = .ok (.getfield 12, 3) := by decide +kernel
theorem dX_isAsTold_11 : decode cX_isAsTold 11 = .ok (.iload_n 1, 1) := by decide +kernel
theorem dX_isAsTold_12 : decode cX_isAsTold 12 = .ok (.iload_n 2, 1) := by decide +kernel
theorem dX_isAsTold_13 : decode cX_isAsTold 13 = .ok (.iload_n 3, 1) := by decide +kernel
theorem dX_isAsTold_14 : decode cX_isAsTold 14 = .ok (.invokevirtual 132, 3) := by decide +kernel
theorem dX_isAsTold_17 : decode cX_isAsTold 17 = .ok (.aload_n 0, 1) := by decide +kernel
theorem dX_isAsTold_18 : decode cX_isAsTold 18 = .ok (.getfield 40, 3) := by decide +kernel
theorem dX_isAsTold_21 : decode cX_isAsTold 21 = .ok (.iload_n 1, 1) := by decide +kernel
theorem dX_isAsTold_22 : decode cX_isAsTold 22 = .ok (.iaload, 1) := by decide +kernel
theorem dX_isAsTold_23 : decode cX_isAsTold 23 = .ok (.if_icmp .ne 7, 3) := by decide +kernel
theorem dX_isAsTold_26 : decode cX_isAsTold 26 = .ok (.iconst 1, 1) := by decide +kernel
theorem dX_isAsTold_27 : decode cX_isAsTold 27 = .ok (.goto 4, 3) := by decide +kernel
theorem dX_isAsTold_30 : decode cX_isAsTold 30 = .ok (.iconst 0, 1) := by decide +kernel
theorem dX_isAsTold_31 : decode cX_isAsTold 31 = .ok (.ireturn, 1) := by decide +kernel
theorem dX_isPlace_0 : decode cX_isPlace 0 = .ok (.iload_n 0, 1) := by decide +kernel
theorem dX_isPlace_1 : decode cX_isPlace 1 = .ok (.ifCond .lt 13, 3) := by decide +kernel
theorem dX_isPlace_4 : decode cX_isPlace 4 = .ok (.iload_n 0, 1) := by decide +kernel
theorem dX_isPlace_5 : decode cX_isPlace 5 = .ok (.bipush 7, 2) := by decide +kernel
theorem dX_isPlace_7 : decode cX_isPlace 7 = .ok (.if_icmp .ge 7, 3) := by decide +kernel
theorem dX_isPlace_10 : decode cX_isPlace 10 = .ok (.iconst 1, 1) := by decide +kernel
theorem dX_isPlace_11 : decode cX_isPlace 11 = .ok (.goto 4, 3) := by decide +kernel
theorem dX_isPlace_14 : decode cX_isPlace 14 = .ok (.iconst 0, 1) := by decide +kernel
theorem dX_isPlace_15 : decode cX_isPlace 15 = .ok (.ireturn, 1) := by decide +kernel
theorem dX_isRoom_0 : decode cX_isRoom 0 = .ok (.iload_n 0, 1) := by decide +kernel
theorem dX_isRoom_1 : decode cX_isRoom 1 = .ok (.ifCond .lt 13, 3) := by decide +kernel
theorem dX_isRoom_4 : decode cX_isRoom 4 = .ok (.iload_n 0, 1) := by decide +kernel
theorem dX_isRoom_5 : decode cX_isRoom 5 = .ok (.bipush 6, 2) := by decide +kernel
theorem dX_isRoom_7 : decode cX_isRoom 7 = .ok (.if_icmp .ge 7, 3) := by decide +kernel
theorem dX_isRoom_10 : decode cX_isRoom 10 = .ok (.iconst 1, 1) := by decide +kernel
theorem dX_isRoom_11 : decode cX_isRoom 11 = .ok (.goto 4, 3) := by decide +kernel
theorem dX_isRoom_14 : decode cX_isRoom 14 = .ok (.iconst 0, 1) := by decide +kernel
theorem dX_isRoom_15 : decode cX_isRoom 15 = .ok (.ireturn, 1) := by decide +kernel
theorem dX_judge_0 : decode cX_judge 0 = .ok (.aload_n 0, 1) := by decide +kernel
theorem dX_judge_1 : decode cX_judge 1 = .ok (.invokevirtual 191, 3) := by decide +kernel
theorem dX_judge_4 : decode cX_judge 4 = .ok (.istore_n 1, 1) := by decide +kernel
theorem dX_judge_5 : decode cX_judge 5 = .ok (.iload_n 1, 1) := by decide +kernel
theorem dX_judge_6 : decode cX_judge 6 = .ok (.aload_n 0, 1) := by decide +kernel
theorem dX_judge_7 : decode cX_judge 7 = .ok (.getfield 44, 3) := by decide +kernel
theorem dX_judge_10 : decode cX_judge 10 = .ok (.if_icmp .ge 7, 3) := by decide +kernel
theorem dX_judge_13 : decode cX_judge 13 = .ok (.iload_n 1, 1) := by decide +kernel
theorem dX_judge_14 : decode cX_judge 14 = .ok (.goto 5, 3) := by decide +kernel
theorem dX_judge_17 : decode cX_judge 17 = .ok (.bipush (-9), 2) := by decide +kernel
theorem dX_judge_19 : decode cX_judge 19 = .ok (.ireturn, 1) := by decide +kernel
theorem dX_kindOf_0 : decode cX_kindOf 0 = .ok (.iload_n 0, 1) := by decide +kernel
theorem dX_kindOf_1 : decode cX_kindOf 1 = .ok (.lookupswitch 71 #[(99, 61), (104, 65), (112, 59), (115, 69), (116, 67), (119, 63)], 59) := by decide +kernel
theorem dX_kindOf_60 : decode cX_kindOf 60 = .ok (.iconst 0, 1) := by decide +kernel
theorem dX_kindOf_61 : decode cX_kindOf 61 = .ok (.ireturn, 1) := by decide +kernel
theorem dX_kindOf_62 : decode cX_kindOf 62 = .ok (.iconst 1, 1) := by decide +kernel
theorem dX_kindOf_63 : decode cX_kindOf 63 = .ok (.ireturn, 1) := by decide +kernel
theorem dX_kindOf_64 : decode cX_kindOf 64 = .ok (.iconst 2, 1) := by decide +kernel
theorem dX_kindOf_65 : decode cX_kindOf 65 = .ok (.ireturn, 1) := by decide +kernel
theorem dX_kindOf_66 : decode cX_kindOf 66 = .ok (.iconst 3, 1) := by decide +kernel
theorem dX_kindOf_67 : decode cX_kindOf 67 = .ok (.ireturn, 1) := by decide +kernel
theorem dX_kindOf_68 : decode cX_kindOf 68 = .ok (.iconst 4, 1) := by decide +kernel
theorem dX_kindOf_69 : decode cX_kindOf 69 = .ok (.ireturn, 1) := by decide +kernel
theorem dX_kindOf_70 : decode cX_kindOf 70 = .ok (.iconst 5, 1) := by decide +kernel
theorem dX_kindOf_71 : decode cX_kindOf 71 = .ok (.ireturn, 1) := by decide +kernel
theorem dX_kindOf_72 : decode cX_kindOf 72 = .ok (.iconst (-1), 1) := by decide +kernel
theorem dX_kindOf_73 : decode cX_kindOf 73 = .ok (.ireturn, 1) := by decide +kernel
theorem dX_leak_0 : decode cX_leak 0 = .ok (.iload_n 1, 1) := by decide +kernel
theorem dX_leak_1 : decode cX_leak 1 = .ok (.invokestatic 66, 3) := by decide +kernel
theorem dX_leak_4 : decode cX_leak 4 = .ok (.ifCond .ne 9, 3) := by decide +kernel
theorem dX_leak_7 : decode cX_leak 7 = .ok (.aload_n 0, 1) := by decide +kernel
theorem dX_leak_8 : decode cX_leak 8 = .ok (.iconst (-1), 1) := by decide +kernel
theorem dX_leak_9 : decode cX_leak 9 = .ok (.invokevirtual 51, 3) := by decide +kernel
theorem dX_leak_12 : decode cX_leak 12 = .ok (.ireturn, 1) := by decide +kernel
theorem dX_leak_13 : decode cX_leak 13 = .ok (.iload_n 2, 1) := by decide +kernel
theorem dX_leak_14 : decode cX_leak 14 = .ok (.ifCond .ge 10, 3) := by decide +kernel
theorem dX_leak_17 : decode cX_leak 17 = .ok (.aload_n 0, 1) := by decide +kernel
theorem dX_leak_18 : decode cX_leak 18 = .ok (.bipush (-4), 2) := by decide +kernel
theorem dX_leak_20 : decode cX_leak 20 = .ok (.invokevirtual 51, 3) := by decide +kernel
theorem dX_leak_23 : decode cX_leak 23 = .ok (.ireturn, 1) := by decide +kernel
theorem dX_leak_24 : decode cX_leak 24 = .ok (.iload_n 2, 1) := by decide +kernel
theorem dX_leak_25 : decode cX_leak 25 = .ok (.bipush 9, 2) := by decide +kernel
theorem dX_leak_27 : decode cX_leak 27 = .ok (.if_icmp .le 10, 3) := by decide +kernel
theorem dX_leak_30 : decode cX_leak 30 = .ok (.aload_n 0, 1) := by decide +kernel
theorem dX_leak_31 : decode cX_leak 31 = .ok (.bipush (-6), 2) := by decide +kernel
theorem dX_leak_33 : decode cX_leak 33 = .ok (.invokevirtual 51, 3) := by decide +kernel
theorem dX_leak_36 : decode cX_leak 36 = .ok (.ireturn, 1) := by decide +kernel
theorem dX_leak_37 : decode cX_leak 37 = .ok (.aload_n 0, 1) := by decide +kernel
theorem dX_leak_38 : decode cX_leak 38 = .ok (.getfield 12, 3) := by decide +kernel
theorem dX_leak_41 : decode cX_leak 41 = .ok (.getfield 73, 3) := by decide +kernel
theorem dX_leak_44 : decode cX_leak 44 = .ok (.iload_n 1, 1) := by decide +kernel
theorem dX_leak_45 : decode cX_leak 45 = .ok (.iaload, 1) := by decide +kernel
theorem dX_leak_46 : decode cX_leak 46 = .ok (.istore_n 3, 1) := by decide +kernel
theorem dX_leak_47 : decode cX_leak 47 = .ok (.aload_n 0, 1) := by decide +kernel
theorem dX_leak_48 : decode cX_leak 48 = .ok (.getfield 12, 3) := by decide +kernel
theorem dX_leak_51 : decode cX_leak 51 = .ok (.getfield 73, 3) := by decide +kernel
theorem dX_leak_54 : decode cX_leak 54 = .ok (.iload_n 1, 1) := by decide +kernel
theorem dX_leak_55 : decode cX_leak 55 = .ok (.iload_n 2, 1) := by decide +kernel
theorem dX_leak_56 : decode cX_leak 56 = .ok (.iastore, 1) := by decide +kernel
theorem dX_leak_57 : decode cX_leak 57 = .ok (.iload_n 3, 1) := by decide +kernel
theorem dX_leak_58 : decode cX_leak 58 = .ok (.ireturn, 1) := by decide +kernel
theorem dX_letter_0 : decode cX_letter 0 = .ok (.iload_n 1, 1) := by decide +kernel
theorem dX_letter_1 : decode cX_letter 1 = .ok (.ifCond .ge 10, 3) := by decide +kernel
theorem dX_letter_4 : decode cX_letter 4 = .ok (.aload_n 0, 1) := by decide +kernel
theorem dX_letter_5 : decode cX_letter 5 = .ok (.bipush (-4), 2) := by decide +kernel
theorem dX_letter_7 : decode cX_letter 7 = .ok (.invokevirtual 51, 3) := by decide +kernel
theorem dX_letter_10 : decode cX_letter 10 = .ok (.ireturn, 1) := by decide +kernel
theorem dX_letter_11 : decode cX_letter 11 = .ok (.iload_n 1, 1) := by decide +kernel
theorem dX_letter_12 : decode cX_letter 12 = .ok (.sipush 255, 3) := by decide +kernel
theorem dX_letter_15 : decode cX_letter 15 = .ok (.if_icmp .gt 15, 3) := by decide +kernel
theorem dX_letter_18 : decode cX_letter 18 = .ok (.aload_n 0, 1) := by decide +kernel
theorem dX_letter_19 : decode cX_letter 19 = .ok (.getfield 29, 3) := by decide +kernel
theorem dX_letter_22 : decode cX_letter 22 = .ok (.getfield 55, 3) := by decide +kernel
theorem dX_letter_25 : decode cX_letter 25 = .ok (.bipush 96, 2) := by decide +kernel
theorem dX_letter_27 : decode cX_letter 27 = .ok (.if_icmp .lt 10, 3) := by decide +kernel
theorem dX_letter_30 : decode cX_letter 30 = .ok (.aload_n 0, 1) := by decide +kernel
theorem dX_letter_31 : decode cX_letter 31 = .ok (.bipush (-6), 2) := by decide +kernel
theorem dX_letter_33 : decode cX_letter 33 = .ok (.invokevirtual 51, 3) := by decide +kernel
theorem dX_letter_36 : decode cX_letter 36 = .ok (.ireturn, 1) := by decide +kernel
theorem dX_letter_37 : decode cX_letter 37 = .ok (.aload_n 0, 1) := by decide +kernel
theorem dX_letter_38 : decode cX_letter 38 = .ok (.getfield 29, 3) := by decide +kernel
theorem dX_letter_41 : decode cX_letter 41 = .ok (.iload_n 1, 1) := by decide +kernel
theorem dX_letter_42 : decode cX_letter 42 = .ok (.invokevirtual 58, 3) := by decide +kernel
theorem dX_letter_45 : decode cX_letter 45 = .ok (.aload_n 0, 1) := by decide +kernel
theorem dX_letter_46 : decode cX_letter 46 = .ok (.getfield 29, 3) := by decide +kernel
theorem dX_letter_49 : decode cX_letter 49 = .ok (.getfield 55, 3) := by decide +kernel
theorem dX_letter_52 : decode cX_letter 52 = .ok (.ireturn, 1) := by decide +kernel
theorem dX_lock_0 : decode cX_lock 0 = .ok (.aload_n 0, 1) := by decide +kernel
theorem dX_lock_1 : decode cX_lock 1 = .ok (.getfield 12, 3) := by decide +kernel
theorem dX_lock_4 : decode cX_lock 4 = .ok (.iload_n 1, 1) := by decide +kernel
theorem dX_lock_5 : decode cX_lock 5 = .ok (.invokevirtual 82, 3) := by decide +kernel
theorem dX_lock_8 : decode cX_lock 8 = .ok (.ifCond .ne 9, 3) := by decide +kernel
theorem dX_lock_11 : decode cX_lock 11 = .ok (.aload_n 0, 1) := by decide +kernel
theorem dX_lock_12 : decode cX_lock 12 = .ok (.iconst (-1), 1) := by decide +kernel
theorem dX_lock_13 : decode cX_lock 13 = .ok (.invokevirtual 51, 3) := by decide +kernel
theorem dX_lock_16 : decode cX_lock 16 = .ok (.ireturn, 1) := by decide +kernel
theorem dX_lock_17 : decode cX_lock 17 = .ok (.iload_n 2, 1) := by decide +kernel
theorem dX_lock_18 : decode cX_lock 18 = .ok (.tableswitch 84 0 4 #[34, 44, 54, 64, 74], 34) := by decide +kernel
theorem dX_lock_52 : decode cX_lock 52 = .ok (.aload_n 0, 1) := by decide +kernel
theorem dX_lock_53 : decode cX_lock 53 = .ok (.getfield 12, 3) := by decide +kernel
theorem dX_lock_56 : decode cX_lock 56 = .ok (.getfield 85, 3) := by decide +kernel
theorem dX_lock_59 : decode cX_lock 59 = .ok (.iload_n 1, 1) := by decide +kernel
theorem dX_lock_60 : decode cX_lock 60 = .ok (.iaload, 1) := by decide +kernel
theorem dX_lock_61 : decode cX_lock 61 = .ok (.ireturn, 1) := by decide +kernel
theorem dX_lock_62 : decode cX_lock 62 = .ok (.aload_n 0, 1) := by decide +kernel
theorem dX_lock_63 : decode cX_lock 63 = .ok (.getfield 12, 3) := by decide +kernel
theorem dX_lock_66 : decode cX_lock 66 = .ok (.getfield 88, 3) := by decide +kernel
theorem dX_lock_69 : decode cX_lock 69 = .ok (.iload_n 1, 1) := by decide +kernel
theorem dX_lock_70 : decode cX_lock 70 = .ok (.iaload, 1) := by decide +kernel
theorem dX_lock_71 : decode cX_lock 71 = .ok (.ireturn, 1) := by decide +kernel
theorem dX_lock_72 : decode cX_lock 72 = .ok (.aload_n 0, 1) := by decide +kernel
theorem dX_lock_73 : decode cX_lock 73 = .ok (.getfield 12, 3) := by decide +kernel
theorem dX_lock_76 : decode cX_lock 76 = .ok (.getfield 91, 3) := by decide +kernel
theorem dX_lock_79 : decode cX_lock 79 = .ok (.iload_n 1, 1) := by decide +kernel
theorem dX_lock_80 : decode cX_lock 80 = .ok (.iaload, 1) := by decide +kernel
theorem dX_lock_81 : decode cX_lock 81 = .ok (.ireturn, 1) := by decide +kernel
theorem dX_lock_82 : decode cX_lock 82 = .ok (.aload_n 0, 1) := by decide +kernel
theorem dX_lock_83 : decode cX_lock 83 = .ok (.getfield 12, 3) := by decide +kernel
theorem dX_lock_86 : decode cX_lock 86 = .ok (.getfield 94, 3) := by decide +kernel
theorem dX_lock_89 : decode cX_lock 89 = .ok (.iload_n 1, 1) := by decide +kernel
theorem dX_lock_90 : decode cX_lock 90 = .ok (.iaload, 1) := by decide +kernel
theorem dX_lock_91 : decode cX_lock 91 = .ok (.ireturn, 1) := by decide +kernel
theorem dX_lock_92 : decode cX_lock 92 = .ok (.aload_n 0, 1) := by decide +kernel
theorem dX_lock_93 : decode cX_lock 93 = .ok (.getfield 12, 3) := by decide +kernel
theorem dX_lock_96 : decode cX_lock 96 = .ok (.getfield 97, 3) := by decide +kernel
theorem dX_lock_99 : decode cX_lock 99 = .ok (.iload_n 1, 1) := by decide +kernel
theorem dX_lock_100 : decode cX_lock 100 = .ok (.iaload, 1) := by decide +kernel
theorem dX_lock_101 : decode cX_lock 101 = .ok (.ireturn, 1) := by decide +kernel
theorem dX_lock_102 : decode cX_lock 102 = .ok (.aload_n 0, 1) := by decide +kernel
theorem dX_lock_103 : decode cX_lock 103 = .ok (.bipush (-2), 2) := by decide +kernel
theorem dX_lock_105 : decode cX_lock 105 = .ok (.invokevirtual 51, 3) := by decide +kernel
theorem dX_lock_108 : decode cX_lock 108 = .ok (.ireturn, 1) := by decide +kernel
theorem dX_longestWith_0 : decode cX_longestWith 0 = .ok (.iload_n 1, 1) := by decide +kernel
theorem dX_longestWith_1 : decode cX_longestWith 1 = .ok (.ifCond .ge 8, 3) := by decide +kernel
theorem dX_longestWith_4 : decode cX_longestWith 4 = .ok (.ldc 207, 2) := by decide +kernel
theorem dX_longestWith_6 : decode cX_longestWith 6 = .ok (.goto 18, 3) := by decide +kernel
theorem dX_longestWith_9 : decode cX_longestWith 9 = .ok (.aload_n 0, 1) := by decide +kernel
theorem dX_longestWith_10 : decode cX_longestWith 10 = .ok (.getfield 36, 3) := by decide +kernel
theorem dX_longestWith_13 : decode cX_longestWith 13 = .ok (.iload_n 1, 1) := by decide +kernel
theorem dX_longestWith_14 : decode cX_longestWith 14 = .ok (.bipush 10, 2) := by decide +kernel
theorem dX_longestWith_16 : decode cX_longestWith 16 = .ok (.idiv, 1) := by decide +kernel
theorem dX_longestWith_17 : decode cX_longestWith 17 = .ok (.iload_n 1, 1) := by decide +kernel
theorem dX_longestWith_18 : decode cX_longestWith 18 = .ok (.bipush 10, 2) := by decide +kernel
theorem dX_longestWith_20 : decode cX_longestWith 20 = .ok (.irem, 1) := by decide +kernel
theorem dX_longestWith_21 : decode cX_longestWith 21 = .ok (.invokevirtual 245, 3) := by decide +kernel
theorem dX_longestWith_24 : decode cX_longestWith 24 = .ok (.ireturn, 1) := by decide +kernel
theorem dX_minutes_0 : decode cX_minutes 0 = .ok (.iload_n 1, 1) := by decide +kernel
theorem dX_minutes_1 : decode cX_minutes 1 = .ok (.iconst 1, 1) := by decide +kernel
theorem dX_minutes_2 : decode cX_minutes 2 = .ok (.if_icmp .ge 10, 3) := by decide +kernel
theorem dX_minutes_5 : decode cX_minutes 5 = .ok (.aload_n 0, 1) := by decide +kernel
theorem dX_minutes_6 : decode cX_minutes 6 = .ok (.bipush (-4), 2) := by decide +kernel
theorem dX_minutes_8 : decode cX_minutes 8 = .ok (.invokevirtual 51, 3) := by decide +kernel
theorem dX_minutes_11 : decode cX_minutes 11 = .ok (.ireturn, 1) := by decide +kernel
theorem dX_minutes_12 : decode cX_minutes 12 = .ok (.iload_n 1, 1) := by decide +kernel
theorem dX_minutes_13 : decode cX_minutes 13 = .ok (.bipush 99, 2) := by decide +kernel
theorem dX_minutes_15 : decode cX_minutes 15 = .ok (.if_icmp .gt 18, 3) := by decide +kernel
theorem dX_minutes_18 : decode cX_minutes 18 = .ok (.aload_n 0, 1) := by decide +kernel
theorem dX_minutes_19 : decode cX_minutes 19 = .ok (.getfield 12, 3) := by decide +kernel
theorem dX_minutes_22 : decode cX_minutes 22 = .ok (.getfield 122, 3) := by decide +kernel
theorem dX_minutes_25 : decode cX_minutes 25 = .ok (.iload_n 1, 1) := by decide +kernel
theorem dX_minutes_26 : decode cX_minutes 26 = .ok (.iadd, 1) := by decide +kernel
theorem dX_minutes_27 : decode cX_minutes 27 = .ok (.sipush 999, 3) := by decide +kernel
theorem dX_minutes_30 : decode cX_minutes 30 = .ok (.if_icmp .le 10, 3) := by decide +kernel
theorem dX_minutes_33 : decode cX_minutes 33 = .ok (.aload_n 0, 1) := by decide +kernel
theorem dX_minutes_34 : decode cX_minutes 34 = .ok (.bipush (-6), 2) := by decide +kernel
theorem dX_minutes_36 : decode cX_minutes 36 = .ok (.invokevirtual 51, 3) := by decide +kernel
theorem dX_minutes_39 : decode cX_minutes 39 = .ok (.ireturn, 1) := by decide +kernel
theorem dX_minutes_40 : decode cX_minutes 40 = .ok (.aload_n 0, 1) := by decide +kernel
theorem dX_minutes_41 : decode cX_minutes 41 = .ok (.getfield 12, 3) := by decide +kernel
theorem dX_minutes_44 : decode cX_minutes 44 = .ok (.iload_n 1, 1) := by decide +kernel
theorem dX_minutes_45 : decode cX_minutes 45 = .ok (.invokevirtual 129, 3) := by decide +kernel
theorem dX_minutes_48 : decode cX_minutes 48 = .ok (.ireturn, 1) := by decide +kernel
theorem dX_more_0 : decode cX_more 0 = .ok (.iload_n 1, 1) := by decide +kernel
theorem dX_more_1 : decode cX_more 1 = .ok (.ifCond .eq 15, 3) := by decide +kernel
theorem dX_more_4 : decode cX_more 4 = .ok (.iload_n 1, 1) := by decide +kernel
theorem dX_more_5 : decode cX_more 5 = .ok (.iconst 1, 1) := by decide +kernel
theorem dX_more_6 : decode cX_more 6 = .ok (.if_icmp .eq 10, 3) := by decide +kernel
theorem dX_more_9 : decode cX_more 9 = .ok (.aload_n 0, 1) := by decide +kernel
theorem dX_more_10 : decode cX_more 10 = .ok (.bipush (-2), 2) := by decide +kernel
theorem dX_more_12 : decode cX_more 12 = .ok (.invokevirtual 51, 3) := by decide +kernel
theorem dX_more_15 : decode cX_more 15 = .ok (.ireturn, 1) := by decide +kernel
theorem dX_more_16 : decode cX_more 16 = .ok (.aload_n 0, 1) := by decide +kernel
theorem dX_more_17 : decode cX_more 17 = .ok (.getfield 36, 3) := by decide +kernel
theorem dX_more_20 : decode cX_more 20 = .ok (.aload_n 0, 1) := by decide +kernel
theorem dX_more_21 : decode cX_more 21 = .ok (.getfield 12, 3) := by decide +kernel
theorem dX_more_24 : decode cX_more 24 = .ok (.invokevirtual 146, 3) := by decide +kernel
theorem dX_more_27 : decode cX_more 27 = .ok (.iload_n 1, 1) := by decide +kernel
theorem dX_more_28 : decode cX_more 28 = .ok (.ifCond .ne 10, 3) := by decide +kernel
theorem dX_more_31 : decode cX_more 31 = .ok (.aload_n 0, 1) := by decide +kernel
theorem dX_more_32 : decode cX_more 32 = .ok (.invokevirtual 161, 3) := by decide +kernel
theorem dX_more_35 : decode cX_more 35 = .ok (.goto 14, 3) := by decide +kernel
theorem dX_more_38 : decode cX_more 38 = .ok (.aload_n 0, 1) := by decide +kernel
theorem dX_more_39 : decode cX_more 39 = .ok (.aload_n 0, 1) := by decide +kernel
theorem dX_more_40 : decode cX_more 40 = .ok (.invokevirtual 161, 3) := by decide +kernel
theorem dX_more_43 : decode cX_more 43 = .ok (.invokevirtual 164, 3) := by decide +kernel
theorem dX_more_46 : decode cX_more 46 = .ok (.invokestatic 152, 3) := by decide +kernel
theorem dX_more_49 : decode cX_more 49 = .ok (.ireturn, 1) := by decide +kernel
theorem dX_nextSeed_0 : decode cX_nextSeed 0 = .ok (.iload_n 0, 1) := by decide +kernel
theorem dX_nextSeed_1 : decode cX_nextSeed 1 = .ok (.ldc_w 260, 3) := by decide +kernel
theorem dX_nextSeed_4 : decode cX_nextSeed 4 = .ok (.imul, 1) := by decide +kernel
theorem dX_nextSeed_5 : decode cX_nextSeed 5 = .ok (.ldc_w 261, 3) := by decide +kernel
theorem dX_nextSeed_8 : decode cX_nextSeed 8 = .ok (.iadd, 1) := by decide +kernel
theorem dX_nextSeed_9 : decode cX_nextSeed 9 = .ok (.ireturn, 1) := by decide +kernel
theorem dX_on_0 : decode cX_on 0 = .ok (.aload_n 0, 1) := by decide +kernel
theorem dX_on_1 : decode cX_on 1 = .ok (.getfield 22, 3) := by decide +kernel
theorem dX_on_4 : decode cX_on 4 = .ok (.ifCond .ne 10, 3) := by decide +kernel
theorem dX_on_7 : decode cX_on 7 = .ok (.aload_n 0, 1) := by decide +kernel
theorem dX_on_8 : decode cX_on 8 = .ok (.bipush (-3), 2) := by decide +kernel
theorem dX_on_10 : decode cX_on 10 = .ok (.invokevirtual 51, 3) := by decide +kernel
theorem dX_on_13 : decode cX_on 13 = .ok (.ireturn, 1) := by decide +kernel
theorem dX_on_14 : decode cX_on 14 = .ok (.aload_n 0, 1) := by decide +kernel
theorem dX_on_15 : decode cX_on 15 = .ok (.getfield 12, 3) := by decide +kernel
theorem dX_on_18 : decode cX_on 18 = .ok (.aload_n 0, 1) := by decide +kernel
theorem dX_on_19 : decode cX_on 19 = .ok (.getfield 19, 3) := by decide +kernel
theorem dX_on_22 : decode cX_on 22 = .ok (.invokevirtual 136, 3) := by decide +kernel
theorem dX_on_25 : decode cX_on 25 = .ok (.aload_n 0, 1) := by decide +kernel
theorem dX_on_26 : decode cX_on 26 = .ok (.getfield 12, 3) := by decide +kernel
theorem dX_on_29 : decode cX_on 29 = .ok (.getfield 122, 3) := by decide +kernel
theorem dX_on_32 : decode cX_on 32 = .ok (.ireturn, 1) := by decide +kernel
theorem dX_open_0 : decode cX_open 0 = .ok (.aload_n 0, 1) := by decide +kernel
theorem dX_open_1 : decode cX_open 1 = .ok (.getfield 12, 3) := by decide +kernel
theorem dX_open_4 : decode cX_open 4 = .ok (.iload_n 1, 1) := by decide +kernel
theorem dX_open_5 : decode cX_open 5 = .ok (.invokevirtual 82, 3) := by decide +kernel
theorem dX_open_8 : decode cX_open 8 = .ok (.ifCond .ne 9, 3) := by decide +kernel
theorem dX_open_11 : decode cX_open 11 = .ok (.aload_n 0, 1) := by decide +kernel
theorem dX_open_12 : decode cX_open 12 = .ok (.iconst (-1), 1) := by decide +kernel
theorem dX_open_13 : decode cX_open 13 = .ok (.invokevirtual 51, 3) := by decide +kernel
theorem dX_open_16 : decode cX_open 16 = .ok (.ireturn, 1) := by decide +kernel
theorem dX_open_17 : decode cX_open 17 = .ok (.iload_n 2, 1) := by decide +kernel
theorem dX_open_18 : decode cX_open 18 = .ok (.ifCond .lt 8, 3) := by decide +kernel
theorem dX_open_21 : decode cX_open 21 = .ok (.iload_n 2, 1) := by decide +kernel
theorem dX_open_22 : decode cX_open 22 = .ok (.iconst 2, 1) := by decide +kernel
theorem dX_open_23 : decode cX_open 23 = .ok (.if_icmp .le 10, 3) := by decide +kernel
theorem dX_open_26 : decode cX_open 26 = .ok (.aload_n 0, 1) := by decide +kernel
theorem dX_open_27 : decode cX_open 27 = .ok (.bipush (-2), 2) := by decide +kernel
theorem dX_open_29 : decode cX_open 29 = .ok (.invokevirtual 51, 3) := by decide +kernel
theorem dX_open_32 : decode cX_open 32 = .ok (.ireturn, 1) := by decide +kernel
theorem dX_open_33 : decode cX_open 33 = .ok (.aload_n 0, 1) := by decide +kernel
theorem dX_open_34 : decode cX_open 34 = .ok (.getfield 12, 3) := by decide +kernel
theorem dX_open_37 : decode cX_open 37 = .ok (.getfield 97, 3) := by decide +kernel
theorem dX_open_40 : decode cX_open 40 = .ok (.iload_n 1, 1) := by decide +kernel
theorem dX_open_41 : decode cX_open 41 = .ok (.iaload, 1) := by decide +kernel
theorem dX_open_42 : decode cX_open 42 = .ok (.istore_n 3, 1) := by decide +kernel
theorem dX_open_43 : decode cX_open 43 = .ok (.iload_n 2, 1) := by decide +kernel
theorem dX_open_44 : decode cX_open 44 = .ok (.ifCond .eq 19, 3) := by decide +kernel
theorem dX_open_47 : decode cX_open 47 = .ok (.iload_n 3, 1) := by decide +kernel
theorem dX_open_48 : decode cX_open 48 = .ok (.ifCond .eq 15, 3) := by decide +kernel
theorem dX_open_51 : decode cX_open 51 = .ok (.iload_n 3, 1) := by decide +kernel
theorem dX_open_52 : decode cX_open 52 = .ok (.iload_n 2, 1) := by decide +kernel
theorem dX_open_53 : decode cX_open 53 = .ok (.if_icmp .eq 10, 3) := by decide +kernel
theorem dX_open_56 : decode cX_open 56 = .ok (.aload_n 0, 1) := by decide +kernel
theorem dX_open_57 : decode cX_open 57 = .ok (.bipush (-3), 2) := by decide +kernel
theorem dX_open_59 : decode cX_open 59 = .ok (.invokevirtual 51, 3) := by decide +kernel
theorem dX_open_62 : decode cX_open 62 = .ok (.ireturn, 1) := by decide +kernel
theorem dX_open_63 : decode cX_open 63 = .ok (.aload_n 0, 1) := by decide +kernel
theorem dX_open_64 : decode cX_open 64 = .ok (.getfield 12, 3) := by decide +kernel
theorem dX_open_67 : decode cX_open 67 = .ok (.getfield 97, 3) := by decide +kernel
theorem dX_open_70 : decode cX_open 70 = .ok (.iload_n 1, 1) := by decide +kernel
theorem dX_open_71 : decode cX_open 71 = .ok (.iload_n 2, 1) := by decide +kernel
theorem dX_open_72 : decode cX_open 72 = .ok (.iastore, 1) := by decide +kernel
theorem dX_open_73 : decode cX_open 73 = .ok (.iload_n 3, 1) := by decide +kernel
theorem dX_open_74 : decode cX_open 74 = .ok (.ireturn, 1) := by decide +kernel
theorem dX_orNone_0 : decode cX_orNone 0 = .ok (.iload_n 0, 1) := by decide +kernel
theorem dX_orNone_1 : decode cX_orNone 1 = .ok (.ldc 207, 2) := by decide +kernel
theorem dX_orNone_3 : decode cX_orNone 3 = .ok (.if_icmp .ge 7, 3) := by decide +kernel
theorem dX_orNone_6 : decode cX_orNone 6 = .ok (.iload_n 0, 1) := by decide +kernel
theorem dX_orNone_7 : decode cX_orNone 7 = .ok (.goto 5, 3) := by decide +kernel
theorem dX_orNone_10 : decode cX_orNone 10 = .ok (.bipush (-9), 2) := by decide +kernel
theorem dX_orNone_12 : decode cX_orNone 12 = .ok (.ireturn, 1) := by decide +kernel
theorem dX_out_0 : decode cX_out 0 = .ok (.aload_n 0, 1) := by decide +kernel
theorem dX_out_1 : decode cX_out 1 = .ok (.getfield 16, 3) := by decide +kernel
theorem dX_out_4 : decode cX_out 4 = .ok (.aload_n 0, 1) := by decide +kernel
theorem dX_out_5 : decode cX_out 5 = .ok (.getfield 12, 3) := by decide +kernel
theorem dX_out_8 : decode cX_out 8 = .ok (.invokevirtual 136, 3) := by decide +kernel
theorem dX_out_11 : decode cX_out 11 = .ok (.iconst 1, 1) := by decide +kernel
theorem dX_out_12 : decode cX_out 12 = .ok (.istore_n 1, 1) := by decide +kernel
theorem dX_out_13 : decode cX_out 13 = .ok (.iload_n 1, 1) := by decide +kernel
theorem dX_out_14 : decode cX_out 14 = .ok (.bipush 99, 2) := by decide +kernel
theorem dX_out_16 : decode cX_out 16 = .ok (.if_icmp .gt 21, 3) := by decide +kernel
theorem dX_out_19 : decode cX_out 19 = .ok (.aload_n 0, 1) := by decide +kernel
theorem dX_out_20 : decode cX_out 20 = .ok (.getfield 16, 3) := by decide +kernel
theorem dX_out_23 : decode cX_out 23 = .ok (.invokevirtual 140, 3) := by decide +kernel
theorem dX_out_26 : decode cX_out 26 = .ok (.ifCond .le 5, 3) := by decide +kernel
theorem dX_out_29 : decode cX_out 29 = .ok (.iload_n 1, 1) := by decide +kernel
theorem dX_out_30 : decode cX_out 30 = .ok (.ireturn, 1) := by decide +kernel
theorem dX_out_31 : decode cX_out 31 = .ok (.iinc 1 1, 3) := by decide +kernel
theorem dX_out_34 : decode cX_out 34 = .ok (.goto (-21), 3) := by decide +kernel
theorem dX_out_37 : decode cX_out 37 = .ok (.bipush (-9), 2) := by decide +kernel
theorem dX_out_39 : decode cX_out 39 = .ok (.ireturn, 1) := by decide +kernel
theorem dX_passBySeeds_0 : decode cX_passBySeeds 0 = .ok (.aload_n 0, 1) := by decide +kernel
theorem dX_passBySeeds_1 : decode cX_passBySeeds 1 = .ok (.getfield 16, 3) := by decide +kernel
theorem dX_passBySeeds_4 : decode cX_passBySeeds 4 = .ok (.aload_n 0, 1) := by decide +kernel
theorem dX_passBySeeds_5 : decode cX_passBySeeds 5 = .ok (.getfield 12, 3) := by decide +kernel
theorem dX_passBySeeds_8 : decode cX_passBySeeds 8 = .ok (.invokevirtual 136, 3) := by decide +kernel
theorem dX_passBySeeds_11 : decode cX_passBySeeds 11 = .ok (.iload_n 2, 1) := by decide +kernel
theorem dX_passBySeeds_12 : decode cX_passBySeeds 12 = .ok (.istore_n 3, 1) := by decide +kernel
theorem dX_passBySeeds_13 : decode cX_passBySeeds 13 = .ok (.iconst 0, 1) := by decide +kernel
theorem dX_passBySeeds_14 : decode cX_passBySeeds 14 = .ok (.istore 4, 2) := by decide +kernel
theorem dX_passBySeeds_16 : decode cX_passBySeeds 16 = .ok (.iconst 0, 1) := by decide +kernel
theorem dX_passBySeeds_17 : decode cX_passBySeeds 17 = .ok (.istore 5, 2) := by decide +kernel
theorem dX_passBySeeds_19 : decode cX_passBySeeds 19 = .ok (.iload 5, 2) := by decide +kernel
theorem dX_passBySeeds_21 : decode cX_passBySeeds 21 = .ok (.iload_n 1, 1) := by decide +kernel
theorem dX_passBySeeds_22 : decode cX_passBySeeds 22 = .ok (.if_icmp .ge 73, 3) := by decide +kernel
theorem dX_passBySeeds_25 : decode cX_passBySeeds 25 = .ok (.iload_n 3, 1) := by decide +kernel
theorem dX_passBySeeds_26 : decode cX_passBySeeds 26 = .ok (.invokestatic 254, 3) := by decide +kernel
theorem dX_passBySeeds_29 : decode cX_passBySeeds 29 = .ok (.istore_n 3, 1) := by decide +kernel
theorem dX_passBySeeds_30 : decode cX_passBySeeds 30 = .ok (.iload_n 3, 1) := by decide +kernel
theorem dX_passBySeeds_31 : decode cX_passBySeeds 31 = .ok (.aload_n 0, 1) := by decide +kernel
theorem dX_passBySeeds_32 : decode cX_passBySeeds 32 = .ok (.getfield 16, 3) := by decide +kernel
theorem dX_passBySeeds_35 : decode cX_passBySeeds 35 = .ok (.getfield 171, 3) := by decide +kernel
theorem dX_passBySeeds_38 : decode cX_passBySeeds 38 = .ok (.invokestatic 257, 3) := by decide +kernel
theorem dX_passBySeeds_41 : decode cX_passBySeeds 41 = .ok (.istore 6, 2) := by decide +kernel
theorem dX_passBySeeds_43 : decode cX_passBySeeds 43 = .ok (.iload_n 3, 1) := by decide +kernel
theorem dX_passBySeeds_44 : decode cX_passBySeeds 44 = .ok (.invokestatic 254, 3) := by decide +kernel
theorem dX_passBySeeds_47 : decode cX_passBySeeds 47 = .ok (.istore_n 3, 1) := by decide +kernel
theorem dX_passBySeeds_48 : decode cX_passBySeeds 48 = .ok (.iload_n 3, 1) := by decide +kernel
theorem dX_passBySeeds_49 : decode cX_passBySeeds 49 = .ok (.aload_n 0, 1) := by decide +kernel
theorem dX_passBySeeds_50 : decode cX_passBySeeds 50 = .ok (.getfield 16, 3) := by decide +kernel
theorem dX_passBySeeds_53 : decode cX_passBySeeds 53 = .ok (.getfield 197, 3) := by decide +kernel
theorem dX_passBySeeds_56 : decode cX_passBySeeds 56 = .ok (.invokestatic 257, 3) := by decide +kernel
theorem dX_passBySeeds_59 : decode cX_passBySeeds 59 = .ok (.istore 7, 2) := by decide +kernel
theorem dX_passBySeeds_61 : decode cX_passBySeeds 61 = .ok (.aload_n 0, 1) := by decide +kernel
theorem dX_passBySeeds_62 : decode cX_passBySeeds 62 = .ok (.getfield 16, 3) := by decide +kernel
theorem dX_passBySeeds_65 : decode cX_passBySeeds 65 = .ok (.iload 6, 2) := by decide +kernel
theorem dX_passBySeeds_67 : decode cX_passBySeeds 67 = .ok (.iload 7, 2) := by decide +kernel
theorem dX_passBySeeds_69 : decode cX_passBySeeds 69 = .ok (.invokevirtual 118, 3) := by decide +kernel
theorem dX_passBySeeds_72 : decode cX_passBySeeds 72 = .ok (.ifCond .eq 17, 3) := by decide +kernel
theorem dX_passBySeeds_75 : decode cX_passBySeeds 75 = .ok (.aload_n 0, 1) := by decide +kernel
theorem dX_passBySeeds_76 : decode cX_passBySeeds 76 = .ok (.getfield 16, 3) := by decide +kernel
theorem dX_passBySeeds_79 : decode cX_passBySeeds 79 = .ok (.iload 6, 2) := by decide +kernel
theorem dX_passBySeeds_81 : decode cX_passBySeeds 81 = .ok (.iload 7, 2) := by decide +kernel
theorem dX_passBySeeds_83 : decode cX_passBySeeds 83 = .ok (.invokevirtual 125, 3) := by decide +kernel
theorem dX_passBySeeds_86 : decode cX_passBySeeds 86 = .ok (.iinc 4 1, 3) := by decide +kernel
theorem dX_passBySeeds_89 : decode cX_passBySeeds 89 = .ok (.iinc 5 1, 3) := by decide +kernel
theorem dX_passBySeeds_92 : decode cX_passBySeeds 92 = .ok (.goto (-73), 3) := by decide +kernel
theorem dX_passBySeeds_95 : decode cX_passBySeeds 95 = .ok (.iload 4, 2) := by decide +kernel
theorem dX_passBySeeds_97 : decode cX_passBySeeds 97 = .ok (.ireturn, 1) := by decide +kernel
theorem dX_passToldInMind_0 : decode cX_passToldInMind 0 = .ok (.aload_n 0, 1) := by decide +kernel
theorem dX_passToldInMind_1 : decode cX_passToldInMind 1 = .ok (.getfield 16, 3) := by decide +kernel
theorem dX_passToldInMind_4 : decode cX_passToldInMind 4 = .ok (.aload_n 0, 1) := by decide +kernel
theorem dX_passToldInMind_5 : decode cX_passToldInMind 5 = .ok (.getfield 12, 3) := by decide +kernel
theorem dX_passToldInMind_8 : decode cX_passToldInMind 8 = .ok (.invokevirtual 136, 3) := by decide +kernel
theorem dX_passToldInMind_11 : decode cX_passToldInMind 11 = .ok (.iconst 0, 1) := by decide +kernel
theorem dX_passToldInMind_12 : decode cX_passToldInMind 12 = .ok (.istore_n 1, 1) := by decide +kernel
theorem dX_passToldInMind_13 : decode cX_passToldInMind 13 = .ok (.iload_n 1, 1) := by decide +kernel
theorem dX_passToldInMind_14 : decode cX_passToldInMind 14 = .ok (.aload_n 0, 1) := by decide +kernel
theorem dX_passToldInMind_15 : decode cX_passToldInMind 15 = .ok (.getfield 44, 3) := by decide +kernel
theorem dX_passToldInMind_18 : decode cX_passToldInMind 18 = .ok (.if_icmp .ge 52, 3) := by decide +kernel
theorem dX_passToldInMind_21 : decode cX_passToldInMind 21 = .ok (.aload_n 0, 1) := by decide +kernel
theorem dX_passToldInMind_22 : decode cX_passToldInMind 22 = .ok (.getfield 40, 3) := by decide +kernel
theorem dX_passToldInMind_25 : decode cX_passToldInMind 25 = .ok (.iload_n 1, 1) := by decide +kernel
theorem dX_passToldInMind_26 : decode cX_passToldInMind 26 = .ok (.iaload, 1) := by decide +kernel
theorem dX_passToldInMind_27 : decode cX_passToldInMind 27 = .ok (.bipush 10, 2) := by decide +kernel
theorem dX_passToldInMind_29 : decode cX_passToldInMind 29 = .ok (.idiv, 1) := by decide +kernel
theorem dX_passToldInMind_30 : decode cX_passToldInMind 30 = .ok (.istore_n 2, 1) := by decide +kernel
theorem dX_passToldInMind_31 : decode cX_passToldInMind 31 = .ok (.aload_n 0, 1) := by decide +kernel
theorem dX_passToldInMind_32 : decode cX_passToldInMind 32 = .ok (.getfield 40, 3) := by decide +kernel
theorem dX_passToldInMind_35 : decode cX_passToldInMind 35 = .ok (.iload_n 1, 1) := by decide +kernel
theorem dX_passToldInMind_36 : decode cX_passToldInMind 36 = .ok (.iaload, 1) := by decide +kernel
theorem dX_passToldInMind_37 : decode cX_passToldInMind 37 = .ok (.bipush 10, 2) := by decide +kernel
theorem dX_passToldInMind_39 : decode cX_passToldInMind 39 = .ok (.irem, 1) := by decide +kernel
theorem dX_passToldInMind_40 : decode cX_passToldInMind 40 = .ok (.istore_n 3, 1) := by decide +kernel
theorem dX_passToldInMind_41 : decode cX_passToldInMind 41 = .ok (.aload_n 0, 1) := by decide +kernel
theorem dX_passToldInMind_42 : decode cX_passToldInMind 42 = .ok (.getfield 16, 3) := by decide +kernel
theorem dX_passToldInMind_45 : decode cX_passToldInMind 45 = .ok (.iload_n 2, 1) := by decide +kernel
theorem dX_passToldInMind_46 : decode cX_passToldInMind 46 = .ok (.iload_n 3, 1) := by decide +kernel
theorem dX_passToldInMind_47 : decode cX_passToldInMind 47 = .ok (.invokevirtual 118, 3) := by decide +kernel
theorem dX_passToldInMind_50 : decode cX_passToldInMind 50 = .ok (.ifCond .ne 5, 3) := by decide +kernel
theorem dX_passToldInMind_53 : decode cX_passToldInMind 53 = .ok (.iload_n 1, 1) := by decide +kernel
theorem dX_passToldInMind_54 : decode cX_passToldInMind 54 = .ok (.ireturn, 1) := by decide +kernel
theorem dX_passToldInMind_55 : decode cX_passToldInMind 55 = .ok (.aload_n 0, 1) := by decide +kernel
theorem dX_passToldInMind_56 : decode cX_passToldInMind 56 = .ok (.getfield 16, 3) := by decide +kernel
theorem dX_passToldInMind_59 : decode cX_passToldInMind 59 = .ok (.iload_n 2, 1) := by decide +kernel
theorem dX_passToldInMind_60 : decode cX_passToldInMind 60 = .ok (.iload_n 3, 1) := by decide +kernel
theorem dX_passToldInMind_61 : decode cX_passToldInMind 61 = .ok (.invokevirtual 125, 3) := by decide +kernel
theorem dX_passToldInMind_64 : decode cX_passToldInMind 64 = .ok (.iinc 1 1, 3) := by decide +kernel
theorem dX_passToldInMind_67 : decode cX_passToldInMind 67 = .ok (.goto (-54), 3) := by decide +kernel
theorem dX_passToldInMind_70 : decode cX_passToldInMind 70 = .ok (.aload_n 0, 1) := by decide +kernel
theorem dX_passToldInMind_71 : decode cX_passToldInMind 71 = .ok (.getfield 44, 3) := by decide +kernel
theorem dX_passToldInMind_74 : decode cX_passToldInMind 74 = .ok (.ireturn, 1) := by decide +kernel
theorem dX_passes_0 : decode cX_passes 0 = .ok (.aload_n 0, 1) := by decide +kernel
theorem dX_passes_1 : decode cX_passes 1 = .ok (.getfield 12, 3) := by decide +kernel
theorem dX_passes_4 : decode cX_passes 4 = .ok (.iload_n 1, 1) := by decide +kernel
theorem dX_passes_5 : decode cX_passes 5 = .ok (.invokevirtual 100, 3) := by decide +kernel
theorem dX_passes_8 : decode cX_passes 8 = .ok (.ifCond .eq 14, 3) := by decide +kernel
theorem dX_passes_11 : decode cX_passes 11 = .ok (.aload_n 0, 1) := by decide +kernel
theorem dX_passes_12 : decode cX_passes 12 = .ok (.getfield 12, 3) := by decide +kernel
theorem dX_passes_15 : decode cX_passes 15 = .ok (.iload_n 2, 1) := by decide +kernel
theorem dX_passes_16 : decode cX_passes 16 = .ok (.invokevirtual 82, 3) := by decide +kernel
theorem dX_passes_19 : decode cX_passes 19 = .ok (.ifCond .ne 9, 3) := by decide +kernel
theorem dX_passes_22 : decode cX_passes 22 = .ok (.aload_n 0, 1) := by decide +kernel
theorem dX_passes_23 : decode cX_passes 23 = .ok (.iconst (-1), 1) := by decide +kernel
theorem dX_passes_24 : decode cX_passes 24 = .ok (.invokevirtual 51, 3) := by decide +kernel
theorem dX_passes_27 : decode cX_passes 27 = .ok (.ireturn, 1) := by decide +kernel
theorem dX_passes_28 : decode cX_passes 28 = .ok (.aload_n 0, 1) := by decide +kernel
theorem dX_passes_29 : decode cX_passes 29 = .ok (.getfield 12, 3) := by decide +kernel
theorem dX_passes_32 : decode cX_passes 32 = .ok (.iload_n 1, 1) := by decide +kernel
theorem dX_passes_33 : decode cX_passes 33 = .ok (.iload_n 2, 1) := by decide +kernel
theorem dX_passes_34 : decode cX_passes 34 = .ok (.invokevirtual 118, 3) := by decide +kernel
theorem dX_passes_37 : decode cX_passes 37 = .ok (.ifCond .ne 10, 3) := by decide +kernel
theorem dX_passes_40 : decode cX_passes 40 = .ok (.aload_n 0, 1) := by decide +kernel
theorem dX_passes_41 : decode cX_passes 41 = .ok (.bipush (-3), 2) := by decide +kernel
theorem dX_passes_43 : decode cX_passes 43 = .ok (.invokevirtual 51, 3) := by decide +kernel
theorem dX_passes_46 : decode cX_passes 46 = .ok (.ireturn, 1) := by decide +kernel
theorem dX_passes_47 : decode cX_passes 47 = .ok (.aload_n 0, 1) := by decide +kernel
theorem dX_passes_48 : decode cX_passes 48 = .ok (.getfield 12, 3) := by decide +kernel
theorem dX_passes_51 : decode cX_passes 51 = .ok (.getfield 122, 3) := by decide +kernel
theorem dX_passes_54 : decode cX_passes 54 = .ok (.aload_n 0, 1) := by decide +kernel
theorem dX_passes_55 : decode cX_passes 55 = .ok (.getfield 12, 3) := by decide +kernel
theorem dX_passes_58 : decode cX_passes 58 = .ok (.getfield 94, 3) := by decide +kernel
theorem dX_passes_61 : decode cX_passes 61 = .ok (.iload_n 2, 1) := by decide +kernel
theorem dX_passes_62 : decode cX_passes 62 = .ok (.iaload, 1) := by decide +kernel
theorem dX_passes_63 : decode cX_passes 63 = .ok (.iadd, 1) := by decide +kernel
theorem dX_passes_64 : decode cX_passes 64 = .ok (.sipush 999, 3) := by decide +kernel
theorem dX_passes_67 : decode cX_passes 67 = .ok (.if_icmp .le 10, 3) := by decide +kernel
theorem dX_passes_70 : decode cX_passes 70 = .ok (.aload_n 0, 1) := by decide +kernel
theorem dX_passes_71 : decode cX_passes 71 = .ok (.bipush (-6), 2) := by decide +kernel
theorem dX_passes_73 : decode cX_passes 73 = .ok (.invokevirtual 51, 3) := by decide +kernel
theorem dX_passes_76 : decode cX_passes 76 = .ok (.ireturn, 1) := by decide +kernel
theorem dX_passes_77 : decode cX_passes 77 = .ok (.aload_n 0, 1) := by decide +kernel
theorem dX_passes_78 : decode cX_passes 78 = .ok (.getfield 12, 3) := by decide +kernel
theorem dX_passes_81 : decode cX_passes 81 = .ok (.iload_n 1, 1) := by decide +kernel
theorem dX_passes_82 : decode cX_passes 82 = .ok (.iload_n 2, 1) := by decide +kernel
theorem dX_passes_83 : decode cX_passes 83 = .ok (.invokevirtual 125, 3) := by decide +kernel
theorem dX_passes_86 : decode cX_passes 86 = .ok (.aload_n 0, 1) := by decide +kernel
theorem dX_passes_87 : decode cX_passes 87 = .ok (.getfield 12, 3) := by decide +kernel
theorem dX_passes_90 : decode cX_passes 90 = .ok (.getfield 106, 3) := by decide +kernel
theorem dX_passes_93 : decode cX_passes 93 = .ok (.iload_n 1, 1) := by decide +kernel
theorem dX_passes_94 : decode cX_passes 94 = .ok (.iaload, 1) := by decide +kernel
theorem dX_passes_95 : decode cX_passes 95 = .ok (.ireturn, 1) := by decide +kernel
theorem dX_person_0 : decode cX_person 0 = .ok (.aload_n 0, 1) := by decide +kernel
theorem dX_person_1 : decode cX_person 1 = .ok (.getfield 12, 3) := by decide +kernel
theorem dX_person_4 : decode cX_person 4 = .ok (.iload_n 1, 1) := by decide +kernel
theorem dX_person_5 : decode cX_person 5 = .ok (.invokevirtual 100, 3) := by decide +kernel
theorem dX_person_8 : decode cX_person 8 = .ok (.ifCond .ne 9, 3) := by decide +kernel
theorem dX_person_11 : decode cX_person 11 = .ok (.aload_n 0, 1) := by decide +kernel
theorem dX_person_12 : decode cX_person 12 = .ok (.iconst (-1), 1) := by decide +kernel
theorem dX_person_13 : decode cX_person 13 = .ok (.invokevirtual 51, 3) := by decide +kernel
theorem dX_person_16 : decode cX_person 16 = .ok (.ireturn, 1) := by decide +kernel
theorem dX_person_17 : decode cX_person 17 = .ok (.iload_n 2, 1) := by decide +kernel
theorem dX_person_18 : decode cX_person 18 = .ok (.tableswitch 83 0 4 #[34, 44, 54, 64, 74], 34) := by decide +kernel
theorem dX_person_52 : decode cX_person 52 = .ok (.aload_n 0, 1) := by decide +kernel
theorem dX_person_53 : decode cX_person 53 = .ok (.getfield 12, 3) := by decide +kernel
theorem dX_person_56 : decode cX_person 56 = .ok (.getfield 103, 3) := by decide +kernel
theorem dX_person_59 : decode cX_person 59 = .ok (.iload_n 1, 1) := by decide +kernel
theorem dX_person_60 : decode cX_person 60 = .ok (.iaload, 1) := by decide +kernel
theorem dX_person_61 : decode cX_person 61 = .ok (.ireturn, 1) := by decide +kernel
theorem dX_person_62 : decode cX_person 62 = .ok (.aload_n 0, 1) := by decide +kernel
theorem dX_person_63 : decode cX_person 63 = .ok (.getfield 12, 3) := by decide +kernel
theorem dX_person_66 : decode cX_person 66 = .ok (.getfield 106, 3) := by decide +kernel
theorem dX_person_69 : decode cX_person 69 = .ok (.iload_n 1, 1) := by decide +kernel
theorem dX_person_70 : decode cX_person 70 = .ok (.iaload, 1) := by decide +kernel
theorem dX_person_71 : decode cX_person 71 = .ok (.ireturn, 1) := by decide +kernel
theorem dX_person_72 : decode cX_person 72 = .ok (.aload_n 0, 1) := by decide +kernel
theorem dX_person_73 : decode cX_person 73 = .ok (.getfield 12, 3) := by decide +kernel
theorem dX_person_76 : decode cX_person 76 = .ok (.getfield 109, 3) := by decide +kernel
theorem dX_person_79 : decode cX_person 79 = .ok (.iload_n 1, 1) := by decide +kernel
theorem dX_person_80 : decode cX_person 80 = .ok (.iaload, 1) := by decide +kernel
theorem dX_person_81 : decode cX_person 81 = .ok (.ireturn, 1) := by decide +kernel
theorem dX_person_82 : decode cX_person 82 = .ok (.aload_n 0, 1) := by decide +kernel
theorem dX_person_83 : decode cX_person 83 = .ok (.getfield 12, 3) := by decide +kernel
theorem dX_person_86 : decode cX_person 86 = .ok (.getfield 112, 3) := by decide +kernel
theorem dX_person_89 : decode cX_person 89 = .ok (.iload_n 1, 1) := by decide +kernel
theorem dX_person_90 : decode cX_person 90 = .ok (.iaload, 1) := by decide +kernel
theorem dX_person_91 : decode cX_person 91 = .ok (.ireturn, 1) := by decide +kernel
theorem dX_person_92 : decode cX_person 92 = .ok (.aload_n 0, 1) := by decide +kernel
theorem dX_person_93 : decode cX_person 93 = .ok (.getfield 12, 3) := by decide +kernel
theorem dX_person_96 : decode cX_person 96 = .ok (.iload_n 1, 1) := by decide +kernel
theorem dX_person_97 : decode cX_person 97 = .ok (.invokevirtual 115, 3) := by decide +kernel
theorem dX_person_100 : decode cX_person 100 = .ok (.ireturn, 1) := by decide +kernel
theorem dX_person_101 : decode cX_person 101 = .ok (.aload_n 0, 1) := by decide +kernel
theorem dX_person_102 : decode cX_person 102 = .ok (.bipush (-2), 2) := by decide +kernel
theorem dX_person_104 : decode cX_person 104 = .ok (.invokevirtual 51, 3) := by decide +kernel
theorem dX_person_107 : decode cX_person 107 = .ok (.ireturn, 1) := by decide +kernel
theorem dX_readBurrow_0 : decode cX_readBurrow 0 = .ok (.aload_n 0, 1) := by decide +kernel
theorem dX_readBurrow_1 : decode cX_readBurrow 1 = .ok (.getfield 29, 3) := by decide +kernel
theorem dX_readBurrow_4 : decode cX_readBurrow 4 = .ok (.invokevirtual 208, 3) := by decide +kernel
theorem dX_readBurrow_7 : decode cX_readBurrow 7 = .ok (.istore_n 1, 1) := by decide +kernel
theorem dX_readBurrow_8 : decode cX_readBurrow 8 = .ok (.iload_n 1, 1) := by decide +kernel
theorem dX_readBurrow_9 : decode cX_readBurrow 9 = .ok (.ifCond .lt 9, 3) := by decide +kernel
theorem dX_readBurrow_12 : decode cX_readBurrow 12 = .ok (.sipush (-1000), 3) := by decide +kernel
theorem dX_readBurrow_15 : decode cX_readBurrow 15 = .ok (.iload_n 1, 1) := by decide +kernel
theorem dX_readBurrow_16 : decode cX_readBurrow 16 = .ok (.isub, 1) := by decide +kernel
theorem dX_readBurrow_17 : decode cX_readBurrow 17 = .ok (.ireturn, 1) := by decide +kernel
theorem dX_readBurrow_18 : decode cX_readBurrow 18 = .ok (.aload_n 0, 1) := by decide +kernel
theorem dX_readBurrow_19 : decode cX_readBurrow 19 = .ok (.getfield 16, 3) := by decide +kernel
theorem dX_readBurrow_22 : decode cX_readBurrow 22 = .ok (.aload_n 0, 1) := by decide +kernel
theorem dX_readBurrow_23 : decode cX_readBurrow 23 = .ok (.getfield 12, 3) := by decide +kernel
theorem dX_readBurrow_26 : decode cX_readBurrow 26 = .ok (.invokevirtual 136, 3) := by decide +kernel
theorem dX_readBurrow_29 : decode cX_readBurrow 29 = .ok (.iconst 0, 1) := by decide +kernel
theorem dX_readBurrow_30 : decode cX_readBurrow 30 = .ok (.istore_n 2, 1) := by decide +kernel
theorem dX_readBurrow_31 : decode cX_readBurrow 31 = .ok (.iconst 0, 1) := by decide +kernel
theorem dX_readBurrow_32 : decode cX_readBurrow 32 = .ok (.istore_n 3, 1) := by decide +kernel
theorem dX_readBurrow_33 : decode cX_readBurrow 33 = .ok (.iload_n 2, 1) := by decide +kernel
theorem dX_readBurrow_34 : decode cX_readBurrow 34 = .ok (.aload_n 0, 1) := by decide +kernel
theorem dX_readBurrow_35 : decode cX_readBurrow 35 = .ok (.getfield 29, 3) := by decide +kernel
theorem dX_readBurrow_38 : decode cX_readBurrow 38 = .ok (.getfield 55, 3) := by decide +kernel
theorem dX_readBurrow_41 : decode cX_readBurrow 41 = .ok (.if_icmp .ge 38, 3) := by decide +kernel
theorem dX_readBurrow_44 : decode cX_readBurrow 44 = .ok (.iload_n 3, 1) := by decide +kernel
theorem dX_readBurrow_45 : decode cX_readBurrow 45 = .ok (.bipush 96, 2) := by decide +kernel
theorem dX_readBurrow_47 : decode cX_readBurrow 47 = .ok (.if_icmp .ge 32, 3) := by decide +kernel
theorem dX_readBurrow_50 : decode cX_readBurrow 50 = .ok (.aload_n 0, 1) := by decide +kernel
theorem dX_readBurrow_51 : decode cX_readBurrow 51 = .ok (.iload_n 2, 1) := by decide +kernel
theorem dX_readBurrow_52 : decode cX_readBurrow 52 = .ok (.invokevirtual 211, 3) := by decide +kernel
theorem dX_readBurrow_55 : decode cX_readBurrow 55 = .ok (.ifCond .ne 9, 3) := by decide +kernel
theorem dX_readBurrow_58 : decode cX_readBurrow 58 = .ok (.sipush (-2000), 3) := by decide +kernel
theorem dX_readBurrow_61 : decode cX_readBurrow 61 = .ok (.iload_n 2, 1) := by decide +kernel
theorem dX_readBurrow_62 : decode cX_readBurrow 62 = .ok (.isub, 1) := by decide +kernel
theorem dX_readBurrow_63 : decode cX_readBurrow 63 = .ok (.ireturn, 1) := by decide +kernel
theorem dX_readBurrow_64 : decode cX_readBurrow 64 = .ok (.aload_n 0, 1) := by decide +kernel
theorem dX_readBurrow_65 : decode cX_readBurrow 65 = .ok (.getfield 29, 3) := by decide +kernel
theorem dX_readBurrow_68 : decode cX_readBurrow 68 = .ok (.iload_n 2, 1) := by decide +kernel
theorem dX_readBurrow_69 : decode cX_readBurrow 69 = .ok (.invokevirtual 214, 3) := by decide +kernel
theorem dX_readBurrow_72 : decode cX_readBurrow 72 = .ok (.istore_n 2, 1) := by decide +kernel
theorem dX_readBurrow_73 : decode cX_readBurrow 73 = .ok (.iinc 3 1, 3) := by decide +kernel
theorem dX_readBurrow_76 : decode cX_readBurrow 76 = .ok (.goto (-43), 3) := by decide +kernel
theorem dX_readBurrow_79 : decode cX_readBurrow 79 = .ok (.aload_n 0, 1) := by decide +kernel
theorem dX_readBurrow_80 : decode cX_readBurrow 80 = .ok (.getfield 12, 3) := by decide +kernel
theorem dX_readBurrow_83 : decode cX_readBurrow 83 = .ok (.aload_n 0, 1) := by decide +kernel
theorem dX_readBurrow_84 : decode cX_readBurrow 84 = .ok (.getfield 16, 3) := by decide +kernel
theorem dX_readBurrow_87 : decode cX_readBurrow 87 = .ok (.invokevirtual 136, 3) := by decide +kernel
theorem dX_readBurrow_90 : decode cX_readBurrow 90 = .ok (.iload_n 3, 1) := by decide +kernel
theorem dX_readBurrow_91 : decode cX_readBurrow 91 = .ok (.ireturn, 1) := by decide +kernel
theorem dX_refuse_0 : decode cX_refuse 0 = .ok (.iload_n 1, 1) := by decide +kernel
theorem dX_refuse_1 : decode cX_refuse 1 = .ok (.ifCond .ge 20, 3) := by decide +kernel
theorem dX_refuse_4 : decode cX_refuse 4 = .ok (.iload_n 1, 1) := by decide +kernel
theorem dX_refuse_5 : decode cX_refuse 5 = .ok (.bipush (-6), 2) := by decide +kernel
theorem dX_refuse_7 : decode cX_refuse 7 = .ok (.if_icmp .lt 14, 3) := by decide +kernel
theorem dX_refuse_10 : decode cX_refuse 10 = .ok (.aload_n 0, 1) := by decide +kernel
theorem dX_refuse_11 : decode cX_refuse 11 = .ok (.getfield 48, 3) := by decide +kernel
theorem dX_refuse_14 : decode cX_refuse 14 = .ok (.iload_n 1, 1) := by decide +kernel
theorem dX_refuse_15 : decode cX_refuse 15 = .ok (.ineg, 1) := by decide +kernel
theorem dX_refuse_16 : decode cX_refuse 16 = .ok (.dup2, 1) := by decide +kernel
theorem dX_refuse_17 : decode cX_refuse 17 = .ok (.iaload, 1) := by decide +kernel
theorem dX_refuse_18 : decode cX_refuse 18 = .ok (.iconst 1, 1) := by decide +kernel
theorem dX_refuse_19 : decode cX_refuse 19 = .ok (.iadd, 1) := by decide +kernel
theorem dX_refuse_20 : decode cX_refuse 20 = .ok (.iastore, 1) := by decide +kernel
theorem dX_refuse_21 : decode cX_refuse 21 = .ok (.iload_n 1, 1) := by decide +kernel
theorem dX_refuse_22 : decode cX_refuse 22 = .ok (.ireturn, 1) := by decide +kernel
theorem dX_room_0 : decode cX_room 0 = .ok (.iload_n 1, 1) := by decide +kernel
theorem dX_room_1 : decode cX_room 1 = .ok (.invokestatic 66, 3) := by decide +kernel
theorem dX_room_4 : decode cX_room 4 = .ok (.ifCond .ne 9, 3) := by decide +kernel
theorem dX_room_7 : decode cX_room 7 = .ok (.aload_n 0, 1) := by decide +kernel
theorem dX_room_8 : decode cX_room 8 = .ok (.iconst (-1), 1) := by decide +kernel
theorem dX_room_9 : decode cX_room 9 = .ok (.invokevirtual 51, 3) := by decide +kernel
theorem dX_room_12 : decode cX_room 12 = .ok (.ireturn, 1) := by decide +kernel
theorem dX_room_13 : decode cX_room 13 = .ok (.iload_n 2, 1) := by decide +kernel
theorem dX_room_14 : decode cX_room 14 = .ok (.tableswitch 68 0 3 #[30, 40, 50, 59], 30) := by decide +kernel
theorem dX_room_44 : decode cX_room 44 = .ok (.aload_n 0, 1) := by decide +kernel
theorem dX_room_45 : decode cX_room 45 = .ok (.getfield 12, 3) := by decide +kernel
theorem dX_room_48 : decode cX_room 48 = .ok (.getfield 70, 3) := by decide +kernel
theorem dX_room_51 : decode cX_room 51 = .ok (.iload_n 1, 1) := by decide +kernel
theorem dX_room_52 : decode cX_room 52 = .ok (.iaload, 1) := by decide +kernel
theorem dX_room_53 : decode cX_room 53 = .ok (.ireturn, 1) := by decide +kernel
theorem dX_room_54 : decode cX_room 54 = .ok (.aload_n 0, 1) := by decide +kernel
theorem dX_room_55 : decode cX_room 55 = .ok (.getfield 12, 3) := by decide +kernel
theorem dX_room_58 : decode cX_room 58 = .ok (.getfield 73, 3) := by decide +kernel
theorem dX_room_61 : decode cX_room 61 = .ok (.iload_n 1, 1) := by decide +kernel
theorem dX_room_62 : decode cX_room 62 = .ok (.iaload, 1) := by decide +kernel
theorem dX_room_63 : decode cX_room 63 = .ok (.ireturn, 1) := by decide +kernel
theorem dX_room_64 : decode cX_room 64 = .ok (.aload_n 0, 1) := by decide +kernel
theorem dX_room_65 : decode cX_room 65 = .ok (.getfield 12, 3) := by decide +kernel
theorem dX_room_68 : decode cX_room 68 = .ok (.iload_n 1, 1) := by decide +kernel
theorem dX_room_69 : decode cX_room 69 = .ok (.invokevirtual 76, 3) := by decide +kernel
theorem dX_room_72 : decode cX_room 72 = .ok (.ireturn, 1) := by decide +kernel
theorem dX_room_73 : decode cX_room 73 = .ok (.aload_n 0, 1) := by decide +kernel
theorem dX_room_74 : decode cX_room 74 = .ok (.getfield 12, 3) := by decide +kernel
theorem dX_room_77 : decode cX_room 77 = .ok (.iload_n 1, 1) := by decide +kernel
theorem dX_room_78 : decode cX_room 78 = .ok (.invokevirtual 79, 3) := by decide +kernel
theorem dX_room_81 : decode cX_room 81 = .ok (.ireturn, 1) := by decide +kernel
theorem dX_room_82 : decode cX_room 82 = .ok (.aload_n 0, 1) := by decide +kernel
theorem dX_room_83 : decode cX_room 83 = .ok (.bipush (-2), 2) := by decide +kernel
theorem dX_room_85 : decode cX_room 85 = .ok (.invokevirtual 51, 3) := by decide +kernel
theorem dX_room_88 : decode cX_room 88 = .ok (.ireturn, 1) := by decide +kernel
theorem dX_roomsUnlikeTold_0 : decode cX_roomsUnlikeTold 0 = .ok (.iconst 0, 1) := by decide +kernel
theorem dX_roomsUnlikeTold_1 : decode cX_roomsUnlikeTold 1 = .ok (.istore_n 2, 1) := by decide +kernel
theorem dX_roomsUnlikeTold_2 : decode cX_roomsUnlikeTold 2 = .ok (.iconst 0, 1) := by decide +kernel
theorem dX_roomsUnlikeTold_3 : decode cX_roomsUnlikeTold 3 = .ok (.istore_n 3, 1) := by decide +kernel
theorem dX_roomsUnlikeTold_4 : decode cX_roomsUnlikeTold 4 = .ok (.iload_n 3, 1) := by decide +kernel
theorem dX_roomsUnlikeTold_5 : decode cX_roomsUnlikeTold 5 = .ok (.bipush 6, 2) := by decide +kernel
theorem dX_roomsUnlikeTold_7 : decode cX_roomsUnlikeTold 7 = .ok (.if_icmp .ge 30, 3) := by decide +kernel
theorem dX_roomsUnlikeTold_10 : decode cX_roomsUnlikeTold 10 = .ok (.aload_n 0, 1) := by decide +kernel
theorem dX_roomsUnlikeTold_11 : decode cX_roomsUnlikeTold 11 = .ok (.iload_n 3, 1) := by decide +kernel
theorem dX_roomsUnlikeTold_12 : decode cX_roomsUnlikeTold 12 = .ok (.aload_n 0, 1) := by decide +kernel
theorem dX_roomsUnlikeTold_13 : decode cX_roomsUnlikeTold 13 = .ok (.getfield 12, 3) := by decide +kernel
theorem dX_roomsUnlikeTold_16 : decode cX_roomsUnlikeTold 16 = .ok (.getfield 73, 3) := by decide +kernel
theorem dX_roomsUnlikeTold_19 : decode cX_roomsUnlikeTold 19 = .ok (.iload_n 3, 1) := by decide +kernel
theorem dX_roomsUnlikeTold_20 : decode cX_roomsUnlikeTold 20 = .ok (.iaload, 1) := by decide +kernel
theorem dX_roomsUnlikeTold_21 : decode cX_roomsUnlikeTold 21 = .ok (.iload_n 1, 1) := by decide +kernel
theorem dX_roomsUnlikeTold_22 : decode cX_roomsUnlikeTold 22 = .ok (.invokevirtual 247, 3) := by decide +kernel
theorem dX_roomsUnlikeTold_25 : decode cX_roomsUnlikeTold 25 = .ok (.ifCond .ne 6, 3) := by decide +kernel
theorem dX_roomsUnlikeTold_28 : decode cX_roomsUnlikeTold 28 = .ok (.iinc 2 1, 3) := by decide +kernel
theorem dX_roomsUnlikeTold_31 : decode cX_roomsUnlikeTold 31 = .ok (.iinc 3 1, 3) := by decide +kernel
theorem dX_roomsUnlikeTold_34 : decode cX_roomsUnlikeTold 34 = .ok (.goto (-30), 3) := by decide +kernel
theorem dX_roomsUnlikeTold_37 : decode cX_roomsUnlikeTold 37 = .ok (.iload_n 2, 1) := by decide +kernel
theorem dX_roomsUnlikeTold_38 : decode cX_roomsUnlikeTold 38 = .ok (.ireturn, 1) := by decide +kernel
theorem dX_row_0 : decode cX_row 0 = .ok (.iload_n 1, 1) := by decide +kernel
theorem dX_row_1 : decode cX_row 1 = .ok (.ifCond .ge 10, 3) := by decide +kernel
theorem dX_row_4 : decode cX_row 4 = .ok (.aload_n 0, 1) := by decide +kernel
theorem dX_row_5 : decode cX_row 5 = .ok (.bipush (-4), 2) := by decide +kernel
theorem dX_row_7 : decode cX_row 7 = .ok (.invokevirtual 51, 3) := by decide +kernel
theorem dX_row_10 : decode cX_row 10 = .ok (.ireturn, 1) := by decide +kernel
theorem dX_row_11 : decode cX_row 11 = .ok (.iload_n 1, 1) := by decide +kernel
theorem dX_row_12 : decode cX_row 12 = .ok (.sipush 999, 3) := by decide +kernel
theorem dX_row_15 : decode cX_row 15 = .ok (.if_icmp .gt 12, 3) := by decide +kernel
theorem dX_row_18 : decode cX_row 18 = .ok (.aload_n 0, 1) := by decide +kernel
theorem dX_row_19 : decode cX_row 19 = .ok (.getfield 44, 3) := by decide +kernel
theorem dX_row_22 : decode cX_row 22 = .ok (.bipush 12, 2) := by decide +kernel
theorem dX_row_24 : decode cX_row 24 = .ok (.if_icmp .lt 10, 3) := by decide +kernel
theorem dX_row_27 : decode cX_row 27 = .ok (.aload_n 0, 1) := by decide +kernel
theorem dX_row_28 : decode cX_row 28 = .ok (.bipush (-6), 2) := by decide +kernel
theorem dX_row_30 : decode cX_row 30 = .ok (.invokevirtual 51, 3) := by decide +kernel
theorem dX_row_33 : decode cX_row 33 = .ok (.ireturn, 1) := by decide +kernel
theorem dX_row_34 : decode cX_row 34 = .ok (.aload_n 0, 1) := by decide +kernel
theorem dX_row_35 : decode cX_row 35 = .ok (.getfield 40, 3) := by decide +kernel
theorem dX_row_38 : decode cX_row 38 = .ok (.aload_n 0, 1) := by decide +kernel
theorem dX_row_39 : decode cX_row 39 = .ok (.getfield 44, 3) := by decide +kernel
theorem dX_row_42 : decode cX_row 42 = .ok (.iload_n 1, 1) := by decide +kernel
theorem dX_row_43 : decode cX_row 43 = .ok (.iastore, 1) := by decide +kernel
theorem dX_row_44 : decode cX_row 44 = .ok (.aload_n 0, 1) := by decide +kernel
theorem dX_row_45 : decode cX_row 45 = .ok (.dup, 1) := by decide +kernel
theorem dX_row_46 : decode cX_row 46 = .ok (.getfield 44, 3) := by decide +kernel
theorem dX_row_49 : decode cX_row 49 = .ok (.iconst 1, 1) := by decide +kernel
theorem dX_row_50 : decode cX_row 50 = .ok (.iadd, 1) := by decide +kernel
theorem dX_row_51 : decode cX_row 51 = .ok (.putfield 44, 3) := by decide +kernel
theorem dX_row_54 : decode cX_row 54 = .ok (.aload_n 0, 1) := by decide +kernel
theorem dX_row_55 : decode cX_row 55 = .ok (.getfield 44, 3) := by decide +kernel
theorem dX_row_58 : decode cX_row 58 = .ok (.ireturn, 1) := by decide +kernel
theorem dX_seeds_0 : decode cX_seeds 0 = .ok (.iload_n 1, 1) := by decide +kernel
theorem dX_seeds_1 : decode cX_seeds 1 = .ok (.iconst 1, 1) := by decide +kernel
theorem dX_seeds_2 : decode cX_seeds 2 = .ok (.if_icmp .ge 10, 3) := by decide +kernel
theorem dX_seeds_5 : decode cX_seeds 5 = .ok (.aload_n 0, 1) := by decide +kernel
theorem dX_seeds_6 : decode cX_seeds 6 = .ok (.bipush (-4), 2) := by decide +kernel
theorem dX_seeds_8 : decode cX_seeds 8 = .ok (.invokevirtual 51, 3) := by decide +kernel
theorem dX_seeds_11 : decode cX_seeds 11 = .ok (.ireturn, 1) := by decide +kernel
theorem dX_seeds_12 : decode cX_seeds 12 = .ok (.iload_n 1, 1) := by decide +kernel
theorem dX_seeds_13 : decode cX_seeds 13 = .ok (.bipush 30, 2) := by decide +kernel
theorem dX_seeds_15 : decode cX_seeds 15 = .ok (.if_icmp .le 10, 3) := by decide +kernel
theorem dX_seeds_18 : decode cX_seeds 18 = .ok (.aload_n 0, 1) := by decide +kernel
theorem dX_seeds_19 : decode cX_seeds 19 = .ok (.bipush (-6), 2) := by decide +kernel
theorem dX_seeds_21 : decode cX_seeds 21 = .ok (.invokevirtual 51, 3) := by decide +kernel
theorem dX_seeds_24 : decode cX_seeds 24 = .ok (.ireturn, 1) := by decide +kernel
theorem dX_seeds_25 : decode cX_seeds 25 = .ok (.aload_n 0, 1) := by decide +kernel
theorem dX_seeds_26 : decode cX_seeds 26 = .ok (.getfield 12, 3) := by decide +kernel
theorem dX_seeds_29 : decode cX_seeds 29 = .ok (.getfield 171, 3) := by decide +kernel
theorem dX_seeds_32 : decode cX_seeds 32 = .ok (.ifCond .eq 13, 3) := by decide +kernel
theorem dX_seeds_35 : decode cX_seeds 35 = .ok (.aload_n 0, 1) := by decide +kernel
theorem dX_seeds_36 : decode cX_seeds 36 = .ok (.getfield 12, 3) := by decide +kernel
theorem dX_seeds_39 : decode cX_seeds 39 = .ok (.getfield 197, 3) := by decide +kernel
theorem dX_seeds_42 : decode cX_seeds 42 = .ok (.ifCond .ne 10, 3) := by decide +kernel
theorem dX_seeds_45 : decode cX_seeds 45 = .ok (.aload_n 0, 1) := by decide +kernel
theorem dX_seeds_46 : decode cX_seeds 46 = .ok (.bipush (-3), 2) := by decide +kernel
theorem dX_seeds_48 : decode cX_seeds 48 = .ok (.invokevirtual 51, 3) := by decide +kernel
theorem dX_seeds_51 : decode cX_seeds 51 = .ok (.ireturn, 1) := by decide +kernel
theorem dX_seeds_52 : decode cX_seeds 52 = .ok (.aload_n 0, 1) := by decide +kernel
theorem dX_seeds_53 : decode cX_seeds 53 = .ok (.iload_n 1, 1) := by decide +kernel
theorem dX_seeds_54 : decode cX_seeds 54 = .ok (.iload_n 2, 1) := by decide +kernel
theorem dX_seeds_55 : decode cX_seeds 55 = .ok (.invokevirtual 200, 3) := by decide +kernel
theorem dX_seeds_58 : decode cX_seeds 58 = .ok (.ireturn, 1) := by decide +kernel
theorem dX_soonest_0 : decode cX_soonest 0 = .ok (.iload_n 1, 1) := by decide +kernel
theorem dX_soonest_1 : decode cX_soonest 1 = .ok (.invokestatic 143, 3) := by decide +kernel
theorem dX_soonest_4 : decode cX_soonest 4 = .ok (.ifCond .ne 9, 3) := by decide +kernel
theorem dX_soonest_7 : decode cX_soonest 7 = .ok (.aload_n 0, 1) := by decide +kernel
theorem dX_soonest_8 : decode cX_soonest 8 = .ok (.iconst (-1), 1) := by decide +kernel
theorem dX_soonest_9 : decode cX_soonest 9 = .ok (.invokevirtual 51, 3) := by decide +kernel
theorem dX_soonest_12 : decode cX_soonest 12 = .ok (.ireturn, 1) := by decide +kernel
theorem dX_soonest_13 : decode cX_soonest 13 = .ok (.aload_n 0, 1) := by decide +kernel
theorem dX_soonest_14 : decode cX_soonest 14 = .ok (.getfield 36, 3) := by decide +kernel
theorem dX_soonest_17 : decode cX_soonest 17 = .ok (.aload_n 0, 1) := by decide +kernel
theorem dX_soonest_18 : decode cX_soonest 18 = .ok (.getfield 12, 3) := by decide +kernel
theorem dX_soonest_21 : decode cX_soonest 21 = .ok (.invokevirtual 146, 3) := by decide +kernel
theorem dX_soonest_24 : decode cX_soonest 24 = .ok (.aload_n 0, 1) := by decide +kernel
theorem dX_soonest_25 : decode cX_soonest 25 = .ok (.getfield 36, 3) := by decide +kernel
theorem dX_soonest_28 : decode cX_soonest 28 = .ok (.iload_n 1, 1) := by decide +kernel
theorem dX_soonest_29 : decode cX_soonest 29 = .ok (.invokevirtual 155, 3) := by decide +kernel
theorem dX_soonest_32 : decode cX_soonest 32 = .ok (.invokestatic 152, 3) := by decide +kernel
theorem dX_soonest_35 : decode cX_soonest 35 = .ok (.ireturn, 1) := by decide +kernel
theorem dX_sum_0 : decode cX_sum 0 = .ok (.iconst 0, 1) := by decide +kernel
theorem dX_sum_1 : decode cX_sum 1 = .ok (.istore_n 1, 1) := by decide +kernel
theorem dX_sum_2 : decode cX_sum 2 = .ok (.aload_n 0, 1) := by decide +kernel
theorem dX_sum_3 : decode cX_sum 3 = .ok (.astore_n 2, 1) := by decide +kernel
theorem dX_sum_4 : decode cX_sum 4 = .ok (.aload_n 2, 1) := by decide +kernel
theorem dX_sum_5 : decode cX_sum 5 = .ok (.arraylength, 1) := by decide +kernel
theorem dX_sum_6 : decode cX_sum 6 = .ok (.istore_n 3, 1) := by decide +kernel
theorem dX_sum_7 : decode cX_sum 7 = .ok (.iconst 0, 1) := by decide +kernel
theorem dX_sum_8 : decode cX_sum 8 = .ok (.istore 4, 2) := by decide +kernel
theorem dX_sum_10 : decode cX_sum 10 = .ok (.iload 4, 2) := by decide +kernel
theorem dX_sum_12 : decode cX_sum 12 = .ok (.iload_n 3, 1) := by decide +kernel
theorem dX_sum_13 : decode cX_sum 13 = .ok (.if_icmp .ge 20, 3) := by decide +kernel
theorem dX_sum_16 : decode cX_sum 16 = .ok (.aload_n 2, 1) := by decide +kernel
theorem dX_sum_17 : decode cX_sum 17 = .ok (.iload 4, 2) := by decide +kernel
theorem dX_sum_19 : decode cX_sum 19 = .ok (.iaload, 1) := by decide +kernel
theorem dX_sum_20 : decode cX_sum 20 = .ok (.istore 5, 2) := by decide +kernel
theorem dX_sum_22 : decode cX_sum 22 = .ok (.iload_n 1, 1) := by decide +kernel
theorem dX_sum_23 : decode cX_sum 23 = .ok (.iload 5, 2) := by decide +kernel
theorem dX_sum_25 : decode cX_sum 25 = .ok (.iadd, 1) := by decide +kernel
theorem dX_sum_26 : decode cX_sum 26 = .ok (.istore_n 1, 1) := by decide +kernel
theorem dX_sum_27 : decode cX_sum 27 = .ok (.iinc 4 1, 3) := by decide +kernel
theorem dX_sum_30 : decode cX_sum 30 = .ok (.goto (-20), 3) := by decide +kernel
theorem dX_sum_33 : decode cX_sum 33 = .ok (.iload_n 1, 1) := by decide +kernel
theorem dX_sum_34 : decode cX_sum 34 = .ok (.ireturn, 1) := by decide +kernel
theorem dX_way_0 : decode cX_way 0 = .ok (.iload_n 1, 1) := by decide +kernel
theorem dX_way_1 : decode cX_way 1 = .ok (.invokestatic 143, 3) := by decide +kernel
theorem dX_way_4 : decode cX_way 4 = .ok (.ifCond .eq 10, 3) := by decide +kernel
theorem dX_way_7 : decode cX_way 7 = .ok (.iload_n 2, 1) := by decide +kernel
theorem dX_way_8 : decode cX_way 8 = .ok (.invokestatic 143, 3) := by decide +kernel
theorem dX_way_11 : decode cX_way 11 = .ok (.ifCond .ne 9, 3) := by decide +kernel
theorem dX_way_14 : decode cX_way 14 = .ok (.aload_n 0, 1) := by decide +kernel
theorem dX_way_15 : decode cX_way 15 = .ok (.iconst (-1), 1) := by decide +kernel
theorem dX_way_16 : decode cX_way 16 = .ok (.invokevirtual 51, 3) := by decide +kernel
theorem dX_way_19 : decode cX_way 19 = .ok (.ireturn, 1) := by decide +kernel
theorem dX_way_20 : decode cX_way 20 = .ok (.aload_n 0, 1) := by decide +kernel
theorem dX_way_21 : decode cX_way 21 = .ok (.getfield 36, 3) := by decide +kernel
theorem dX_way_24 : decode cX_way 24 = .ok (.aload_n 0, 1) := by decide +kernel
theorem dX_way_25 : decode cX_way 25 = .ok (.getfield 12, 3) := by decide +kernel
theorem dX_way_28 : decode cX_way 28 = .ok (.invokevirtual 146, 3) := by decide +kernel
theorem dX_way_31 : decode cX_way 31 = .ok (.aload_n 0, 1) := by decide +kernel
theorem dX_way_32 : decode cX_way 32 = .ok (.getfield 36, 3) := by decide +kernel
theorem dX_way_35 : decode cX_way 35 = .ok (.getfield 149, 3) := by decide +kernel
theorem dX_way_38 : decode cX_way 38 = .ok (.iload_n 1, 1) := by decide +kernel
theorem dX_way_39 : decode cX_way 39 = .ok (.aaload, 1) := by decide +kernel
theorem dX_way_40 : decode cX_way 40 = .ok (.iload_n 2, 1) := by decide +kernel
theorem dX_way_41 : decode cX_way 41 = .ok (.iaload, 1) := by decide +kernel
theorem dX_way_42 : decode cX_way 42 = .ok (.invokestatic 152, 3) := by decide +kernel
theorem dX_way_45 : decode cX_way 45 = .ok (.ireturn, 1) := by decide +kernel
theorem dX_waysToLeak_0 : decode cX_waysToLeak 0 = .ok (.aload_n 0, 1) := by decide +kernel
theorem dX_waysToLeak_1 : decode cX_waysToLeak 1 = .ok (.iload_n 1, 1) := by decide +kernel
theorem dX_waysToLeak_2 : decode cX_waysToLeak 2 = .ok (.invokevirtual 188, 3) := by decide +kernel
theorem dX_waysToLeak_5 : decode cX_waysToLeak 5 = .ok (.istore_n 2, 1) := by decide +kernel
theorem dX_waysToLeak_6 : decode cX_waysToLeak 6 = .ok (.iconst 0, 1) := by decide +kernel
theorem dX_waysToLeak_7 : decode cX_waysToLeak 7 = .ok (.istore_n 3, 1) := by decide +kernel
theorem dX_waysToLeak_8 : decode cX_waysToLeak 8 = .ok (.iconst 0, 1) := by decide +kernel
theorem dX_waysToLeak_9 : decode cX_waysToLeak 9 = .ok (.istore 4, 2) := by decide +kernel
theorem dX_waysToLeak_11 : decode cX_waysToLeak 11 = .ok (.iload 4, 2) := by decide +kernel
theorem dX_waysToLeak_13 : decode cX_waysToLeak 13 = .ok (.bipush 6, 2) := by decide +kernel
theorem dX_waysToLeak_15 : decode cX_waysToLeak 15 = .ok (.if_icmp .ge 41, 3) := by decide +kernel
theorem dX_waysToLeak_18 : decode cX_waysToLeak 18 = .ok (.iconst 0, 1) := by decide +kernel
theorem dX_waysToLeak_19 : decode cX_waysToLeak 19 = .ok (.istore 5, 2) := by decide +kernel
theorem dX_waysToLeak_21 : decode cX_waysToLeak 21 = .ok (.iload 5, 2) := by decide +kernel
theorem dX_waysToLeak_23 : decode cX_waysToLeak 23 = .ok (.bipush 9, 2) := by decide +kernel
theorem dX_waysToLeak_25 : decode cX_waysToLeak 25 = .ok (.if_icmp .gt 25, 3) := by decide +kernel
theorem dX_waysToLeak_28 : decode cX_waysToLeak 28 = .ok (.aload_n 0, 1) := by decide +kernel
theorem dX_waysToLeak_29 : decode cX_waysToLeak 29 = .ok (.iload 4, 2) := by decide +kernel
theorem dX_waysToLeak_31 : decode cX_waysToLeak 31 = .ok (.iload 5, 2) := by decide +kernel
theorem dX_waysToLeak_33 : decode cX_waysToLeak 33 = .ok (.iload_n 1, 1) := by decide +kernel
theorem dX_waysToLeak_34 : decode cX_waysToLeak 34 = .ok (.iload_n 2, 1) := by decide +kernel
theorem dX_waysToLeak_35 : decode cX_waysToLeak 35 = .ok (.invokevirtual 251, 3) := by decide +kernel
theorem dX_waysToLeak_38 : decode cX_waysToLeak 38 = .ok (.ifCond .eq 6, 3) := by decide +kernel
theorem dX_waysToLeak_41 : decode cX_waysToLeak 41 = .ok (.iinc 3 1, 3) := by decide +kernel
theorem dX_waysToLeak_44 : decode cX_waysToLeak 44 = .ok (.iinc 5 1, 3) := by decide +kernel
theorem dX_waysToLeak_47 : decode cX_waysToLeak 47 = .ok (.goto (-26), 3) := by decide +kernel
theorem dX_waysToLeak_50 : decode cX_waysToLeak 50 = .ok (.iinc 4 1, 3) := by decide +kernel
theorem dX_waysToLeak_53 : decode cX_waysToLeak 53 = .ok (.goto (-42), 3) := by decide +kernel
theorem dX_waysToLeak_56 : decode cX_waysToLeak 56 = .ok (.iload_n 3, 1) := by decide +kernel
theorem dX_waysToLeak_57 : decode cX_waysToLeak 57 = .ok (.ireturn, 1) := by decide +kernel
theorem dX_wouldMakeAllSo_0 : decode cX_wouldMakeAllSo 0 = .ok (.iload_n 1, 1) := by decide +kernel
theorem dX_wouldMakeAllSo_1 : decode cX_wouldMakeAllSo 1 = .ok (.invokestatic 66, 3) := by decide +kernel
theorem dX_wouldMakeAllSo_4 : decode cX_wouldMakeAllSo 4 = .ok (.ifCond .eq 26, 3) := by decide +kernel
theorem dX_wouldMakeAllSo_7 : decode cX_wouldMakeAllSo 7 = .ok (.aload_n 0, 1) := by decide +kernel
theorem dX_wouldMakeAllSo_8 : decode cX_wouldMakeAllSo 8 = .ok (.getfield 12, 3) := by decide +kernel
theorem dX_wouldMakeAllSo_11 : decode cX_wouldMakeAllSo 11 = .ok (.getfield 73, 3) := by decide +kernel
theorem dX_wouldMakeAllSo_14 : decode cX_wouldMakeAllSo 14 = .ok (.iload_n 1, 1) := by decide +kernel
theorem dX_wouldMakeAllSo_15 : decode cX_wouldMakeAllSo 15 = .ok (.iaload, 1) := by decide +kernel
theorem dX_wouldMakeAllSo_16 : decode cX_wouldMakeAllSo 16 = .ok (.iload_n 2, 1) := by decide +kernel
theorem dX_wouldMakeAllSo_17 : decode cX_wouldMakeAllSo 17 = .ok (.if_icmp .eq 13, 3) := by decide +kernel
theorem dX_wouldMakeAllSo_20 : decode cX_wouldMakeAllSo 20 = .ok (.aload_n 0, 1) := by decide +kernel
theorem dX_wouldMakeAllSo_21 : decode cX_wouldMakeAllSo 21 = .ok (.iload_n 1, 1) := by decide +kernel
theorem dX_wouldMakeAllSo_22 : decode cX_wouldMakeAllSo 22 = .ok (.iload_n 2, 1) := by decide +kernel
theorem dX_wouldMakeAllSo_23 : decode cX_wouldMakeAllSo 23 = .ok (.iload_n 3, 1) := by decide +kernel
theorem dX_wouldMakeAllSo_24 : decode cX_wouldMakeAllSo 24 = .ok (.invokevirtual 247, 3) := by decide +kernel
theorem dX_wouldMakeAllSo_27 : decode cX_wouldMakeAllSo 27 = .ok (.ifCond .ne 5, 3) := by decide +kernel
theorem dX_wouldMakeAllSo_30 : decode cX_wouldMakeAllSo 30 = .ok (.iconst 0, 1) := by decide +kernel
theorem dX_wouldMakeAllSo_31 : decode cX_wouldMakeAllSo 31 = .ok (.ireturn, 1) := by decide +kernel
theorem dX_wouldMakeAllSo_32 : decode cX_wouldMakeAllSo 32 = .ok (.aload_n 0, 1) := by decide +kernel
theorem dX_wouldMakeAllSo_33 : decode cX_wouldMakeAllSo 33 = .ok (.iload_n 1, 1) := by decide +kernel
theorem dX_wouldMakeAllSo_34 : decode cX_wouldMakeAllSo 34 = .ok (.aload_n 0, 1) := by decide +kernel
theorem dX_wouldMakeAllSo_35 : decode cX_wouldMakeAllSo 35 = .ok (.getfield 12, 3) := by decide +kernel
theorem dX_wouldMakeAllSo_38 : decode cX_wouldMakeAllSo 38 = .ok (.getfield 73, 3) := by decide +kernel
theorem dX_wouldMakeAllSo_41 : decode cX_wouldMakeAllSo 41 = .ok (.iload_n 1, 1) := by decide +kernel
theorem dX_wouldMakeAllSo_42 : decode cX_wouldMakeAllSo 42 = .ok (.iaload, 1) := by decide +kernel
theorem dX_wouldMakeAllSo_43 : decode cX_wouldMakeAllSo 43 = .ok (.iload_n 3, 1) := by decide +kernel
theorem dX_wouldMakeAllSo_44 : decode cX_wouldMakeAllSo 44 = .ok (.invokevirtual 247, 3) := by decide +kernel
theorem dX_wouldMakeAllSo_47 : decode cX_wouldMakeAllSo 47 = .ok (.ifCond .eq 7, 3) := by decide +kernel
theorem dX_wouldMakeAllSo_50 : decode cX_wouldMakeAllSo 50 = .ok (.iconst 0, 1) := by decide +kernel
theorem dX_wouldMakeAllSo_51 : decode cX_wouldMakeAllSo 51 = .ok (.goto 4, 3) := by decide +kernel
theorem dX_wouldMakeAllSo_54 : decode cX_wouldMakeAllSo 54 = .ok (.iconst 1, 1) := by decide +kernel
theorem dX_wouldMakeAllSo_55 : decode cX_wouldMakeAllSo 55 = .ok (.istore 5, 2) := by decide +kernel
theorem dX_wouldMakeAllSo_57 : decode cX_wouldMakeAllSo 57 = .ok (.iload 4, 2) := by decide +kernel
theorem dX_wouldMakeAllSo_59 : decode cX_wouldMakeAllSo 59 = .ok (.iload 5, 2) := by decide +kernel
theorem dX_wouldMakeAllSo_61 : decode cX_wouldMakeAllSo 61 = .ok (.if_icmp .ne 7, 3) := by decide +kernel
theorem dX_wouldMakeAllSo_64 : decode cX_wouldMakeAllSo 64 = .ok (.iconst 1, 1) := by decide +kernel
theorem dX_wouldMakeAllSo_65 : decode cX_wouldMakeAllSo 65 = .ok (.goto 4, 3) := by decide +kernel
theorem dX_wouldMakeAllSo_68 : decode cX_wouldMakeAllSo 68 = .ok (.iconst 0, 1) := by decide +kernel
theorem dX_wouldMakeAllSo_69 : decode cX_wouldMakeAllSo 69 = .ok (.ireturn, 1) := by decide +kernel
end
section
/-! what stands at each place of the code -/
theorem dM_init_0 : decode cM_init 0 = .ok (.aload_n 0, 1) := by decide +kernel
theorem dM_init_1 : decode cM_init 1 = .ok (.invokespecial 1, 3) := by decide +kernel
theorem dM_init_4 : decode cM_init 4 = .ok (.aload_n 0, 1) := by decide +kernel
theorem dM_init_5 : decode cM_init 5 = .ok (.bipush 6, 2) := by decide +kernel
theorem dM_init_7 : decode cM_init 7 = .ok (.newarray .int, 2) := by decide +kernel
theorem dM_init_9 : decode cM_init 9 = .ok (.putfield 7, 3) := by decide +kernel
theorem dM_init_12 : decode cM_init 12 = .ok (.aload_n 0, 1) := by decide +kernel
theorem dM_init_13 : decode cM_init 13 = .ok (.bipush 6, 2) := by decide +kernel
theorem dM_init_15 : decode cM_init 15 = .ok (.newarray .int, 2) := by decide +kernel
theorem dM_init_17 : decode cM_init 17 = .ok (.putfield 13, 3) := by decide +kernel
theorem dM_init_20 : decode cM_init 20 = .ok (.aload_n 0, 1) := by decide +kernel
theorem dM_init_21 : decode cM_init 21 = .ok (.bipush 8, 2) := by decide +kernel
theorem dM_init_23 : decode cM_init 23 = .ok (.newarray .int, 2) := by decide +kernel
theorem dM_init_25 : decode cM_init 25 = .ok (.putfield 16, 3) := by decide +kernel
theorem dM_init_28 : decode cM_init 28 = .ok (.aload_n 0, 1) := by decide +kernel
theorem dM_init_29 : decode cM_init 29 = .ok (.bipush 8, 2) := by decide +kernel
theorem dM_init_31 : decode cM_init 31 = .ok (.newarray .int, 2) := by decide +kernel
theorem dM_init_33 : decode cM_init 33 = .ok (.putfield 19, 3) := by decide +kernel
theorem dM_init_36 : decode cM_init 36 = .ok (.aload_n 0, 1) := by decide +kernel
theorem dM_init_37 : decode cM_init 37 = .ok (.bipush 8, 2) := by decide +kernel
theorem dM_init_39 : decode cM_init 39 = .ok (.newarray .int, 2) := by decide +kernel
theorem dM_init_41 : decode cM_init 41 = .ok (.putfield 22, 3) := by decide +kernel
theorem dM_init_44 : decode cM_init 44 = .ok (.aload_n 0, 1) := by decide +kernel
theorem dM_init_45 : decode cM_init 45 = .ok (.bipush 8, 2) := by decide +kernel
theorem dM_init_47 : decode cM_init 47 = .ok (.newarray .int, 2) := by decide +kernel
theorem dM_init_49 : decode cM_init 49 = .ok (.putfield 25, 3) := by decide +kernel
theorem dM_init_52 : decode cM_init 52 = .ok (.aload_n 0, 1) := by decide +kernel
theorem dM_init_53 : decode cM_init 53 = .ok (.bipush 8, 2) := by decide +kernel
theorem dM_init_55 : decode cM_init 55 = .ok (.newarray .int, 2) := by decide +kernel
theorem dM_init_57 : decode cM_init 57 = .ok (.putfield 28, 3) := by decide +kernel
theorem dM_init_60 : decode cM_init 60 = .ok (.aload_n 0, 1) := by decide +kernel
theorem dM_init_61 : decode cM_init 61 = .ok (.iconst 5, 1) := by decide +kernel
theorem dM_init_62 : decode cM_init 62 = .ok (.newarray .int, 2) := by decide +kernel
theorem dM_init_64 : decode cM_init 64 = .ok (.putfield 31, 3) := by decide +kernel
theorem dM_init_67 : decode cM_init 67 = .ok (.aload_n 0, 1) := by decide +kernel
theorem dM_init_68 : decode cM_init 68 = .ok (.iconst 5, 1) := by decide +kernel
theorem dM_init_69 : decode cM_init 69 = .ok (.newarray .int, 2) := by decide +kernel
theorem dM_init_71 : decode cM_init 71 = .ok (.putfield 34, 3) := by decide +kernel
theorem dM_init_74 : decode cM_init 74 = .ok (.aload_n 0, 1) := by decide +kernel
theorem dM_init_75 : decode cM_init 75 = .ok (.iconst 5, 1) := by decide +kernel
theorem dM_init_76 : decode cM_init 76 = .ok (.newarray .int, 2) := by decide +kernel
theorem dM_init_78 : decode cM_init 78 = .ok (.putfield 37, 3) := by decide +kernel
theorem dM_init_81 : decode cM_init 81 = .ok (.aload_n 0, 1) := by decide +kernel
theorem dM_init_82 : decode cM_init 82 = .ok (.iconst 5, 1) := by decide +kernel
theorem dM_init_83 : decode cM_init 83 = .ok (.newarray .int, 2) := by decide +kernel
theorem dM_init_85 : decode cM_init 85 = .ok (.putfield 40, 3) := by decide +kernel
theorem dM_init_88 : decode cM_init 88 = .ok (.aload_n 0, 1) := by decide +kernel
theorem dM_init_89 : decode cM_init 89 = .ok (.bipush 7, 2) := by decide +kernel
theorem dM_init_91 : decode cM_init 91 = .ok (.newarray .int, 2) := by decide +kernel
theorem dM_init_93 : decode cM_init 93 = .ok (.putfield 43, 3) := by decide +kernel
theorem dM_init_96 : decode cM_init 96 = .ok (.aload_n 0, 1) := by decide +kernel
theorem dM_init_97 : decode cM_init 97 = .ok (.bipush 96, 2) := by decide +kernel
theorem dM_init_99 : decode cM_init 99 = .ok (.newarray .int, 2) := by decide +kernel
theorem dM_init_101 : decode cM_init 101 = .ok (.putfield 46, 3) := by decide +kernel
theorem dM_init_104 : decode cM_init 104 = .ok (.aload_n 0, 1) := by decide +kernel
theorem dM_init_105 : decode cM_init 105 = .ok (.iconst 4, 1) := by decide +kernel
theorem dM_init_106 : decode cM_init 106 = .ok (.newarray .int, 2) := by decide +kernel
theorem dM_init_108 : decode cM_init 108 = .ok (.putfield 49, 3) := by decide +kernel
theorem dM_init_111 : decode cM_init 111 = .ok (.aload_n 0, 1) := by decide +kernel
theorem dM_init_112 : decode cM_init 112 = .ok (.bipush 12, 2) := by decide +kernel
theorem dM_init_114 : decode cM_init 114 = .ok (.newarray .int, 2) := by decide +kernel
theorem dM_init_116 : decode cM_init 116 = .ok (.putfield 52, 3) := by decide +kernel
theorem dM_init_119 : decode cM_init 119 = .ok (.aload_n 0, 1) := by decide +kernel
theorem dM_init_120 : decode cM_init 120 = .ok (.bipush 7, 2) := by decide +kernel
theorem dM_init_122 : decode cM_init 122 = .ok (.newarray .int, 2) := by decide +kernel
theorem dM_init_124 : decode cM_init 124 = .ok (.putfield 55, 3) := by decide +kernel
theorem dM_init_127 : decode cM_init 127 = .ok (.aload_n 0, 1) := by decide +kernel
theorem dM_init_128 : decode cM_init 128 = .ok (.bipush 77, 2) := by decide +kernel
theorem dM_init_130 : decode cM_init 130 = .ok (.newarray .int, 2) := by decide +kernel
theorem dM_init_132 : decode cM_init 132 = .ok (.putfield 58, 3) := by decide +kernel
theorem dM_init_135 : decode cM_init 135 = .ok (.aload_n 0, 1) := by decide +kernel
theorem dM_init_136 : decode cM_init 136 = .ok (.bipush 77, 2) := by decide +kernel
theorem dM_init_138 : decode cM_init 138 = .ok (.newarray .int, 2) := by decide +kernel
theorem dM_init_140 : decode cM_init 140 = .ok (.putfield 61, 3) := by decide +kernel
theorem dM_init_143 : decode cM_init 143 = .ok (.aload_n 0, 1) := by decide +kernel
theorem dM_init_144 : decode cM_init 144 = .ok (.bipush 7, 2) := by decide +kernel
theorem dM_init_146 : decode cM_init 146 = .ok (.newarray .int, 2) := by decide +kernel
theorem dM_init_148 : decode cM_init 148 = .ok (.putfield 64, 3) := by decide +kernel
theorem dM_init_151 : decode cM_init 151 = .ok (.aload_n 0, 1) := by decide +kernel
theorem dM_init_152 : decode cM_init 152 = .ok (.sipush 896, 3) := by decide +kernel
theorem dM_init_155 : decode cM_init 155 = .ok (.newarray .int, 2) := by decide +kernel
theorem dM_init_157 : decode cM_init 157 = .ok (.putfield 67, 3) := by decide +kernel
theorem dM_init_160 : decode cM_init 160 = .ok (.aload_n 0, 1) := by decide +kernel
theorem dM_init_161 : decode cM_init 161 = .ok (.bipush 7, 2) := by decide +kernel
theorem dM_init_163 : decode cM_init 163 = .ok (.newarray .int, 2) := by decide +kernel
theorem dM_init_165 : decode cM_init 165 = .ok (.putfield 70, 3) := by decide +kernel
theorem dM_init_168 : decode cM_init 168 = .ok (.iconst 0, 1) := by decide +kernel
theorem dM_init_169 : decode cM_init 169 = .ok (.istore_n 1, 1) := by decide +kernel
theorem dM_init_170 : decode cM_init 170 = .ok (.iload_n 1, 1) := by decide +kernel
theorem dM_init_171 : decode cM_init 171 = .ok (.bipush 6, 2) := by decide +kernel
theorem dM_init_173 : decode cM_init 173 = .ok (.if_icmp .ge 17, 3) := by decide +kernel
theorem dM_init_176 : decode cM_init 176 = .ok (.aload_n 0, 1) := by decide +kernel
theorem dM_init_177 : decode cM_init 177 = .ok (.getfield 7, 3) := by decide +kernel
theorem dM_init_180 : decode cM_init 180 = .ok (.iload_n 1, 1) := by decide +kernel
theorem dM_init_181 : decode cM_init 181 = .ok (.bipush 100, 2) := by decide +kernel
theorem dM_init_183 : decode cM_init 183 = .ok (.iastore, 1) := by decide +kernel
theorem dM_init_184 : decode cM_init 184 = .ok (.iinc 1 1, 3) := by decide +kernel
theorem dM_init_187 : decode cM_init 187 = .ok (.goto (-17), 3) := by decide +kernel
theorem dM_init_190 : decode cM_init 190 = .ok (.return_, 1) := by decide +kernel
theorem dM_again_0 : decode cM_again 0 = .ok (.iconst 0, 1) := by decide +kernel
theorem dM_again_1 : decode cM_again 1 = .ok (.istore_n 2, 1) := by decide +kernel
theorem dM_again_2 : decode cM_again 2 = .ok (.iload_n 2, 1) := by decide +kernel
theorem dM_again_3 : decode cM_again 3 = .ok (.bipush 6, 2) := by decide +kernel
theorem dM_again_5 : decode cM_again 5 = .ok (.if_icmp .ge 42, 3) := by decide +kernel
theorem dM_again_8 : decode cM_again 8 = .ok (.aload_n 0, 1) := by decide +kernel
theorem dM_again_9 : decode cM_again 9 = .ok (.getfield 7, 3) := by decide +kernel
theorem dM_again_12 : decode cM_again 12 = .ok (.iload_n 2, 1) := by decide +kernel
theorem dM_again_13 : decode cM_again 13 = .ok (.aload_n 1, 1) := by decide +kernel
theorem dM_again_14 : decode cM_again 14 = .ok (.iload_n 2, 1) := by decide +kernel
theorem dM_again_15 : decode cM_again 15 = .ok (.iaload, 1) := by decide +kernel
theorem dM_again_16 : decode cM_again 16 = .ok (.iastore, 1) := by decide +kernel
theorem dM_again_17 : decode cM_again 17 = .ok (.aload_n 0, 1) := by decide +kernel
theorem dM_again_18 : decode cM_again 18 = .ok (.getfield 13, 3) := by decide +kernel
theorem dM_again_21 : decode cM_again 21 = .ok (.iload_n 2, 1) := by decide +kernel
theorem dM_again_22 : decode cM_again 22 = .ok (.aload_n 1, 1) := by decide +kernel
theorem dM_again_23 : decode cM_again 23 = .ok (.bipush 6, 2) := by decide +kernel
theorem dM_again_25 : decode cM_again 25 = .ok (.iload_n 2, 1) := by decide +kernel
theorem dM_again_26 : decode cM_again 26 = .ok (.iadd, 1) := by decide +kernel
theorem dM_again_27 : decode cM_again 27 = .ok (.iaload, 1) := by decide +kernel
theorem dM_again_28 : decode cM_again 28 = .ok (.iastore, 1) := by decide +kernel
theorem dM_again_29 : decode cM_again 29 = .ok (.aload_n 0, 1) := by decide +kernel
theorem dM_again_30 : decode cM_again 30 = .ok (.getfield 43, 3) := by decide +kernel
theorem dM_again_33 : decode cM_again 33 = .ok (.iload_n 2, 1) := by decide +kernel
theorem dM_again_34 : decode cM_again 34 = .ok (.aload_n 1, 1) := by decide +kernel
theorem dM_again_35 : decode cM_again 35 = .ok (.bipush 67, 2) := by decide +kernel
theorem dM_again_37 : decode cM_again 37 = .ok (.iload_n 2, 1) := by decide +kernel
theorem dM_again_38 : decode cM_again 38 = .ok (.iadd, 1) := by decide +kernel
theorem dM_again_39 : decode cM_again 39 = .ok (.iaload, 1) := by decide +kernel
theorem dM_again_40 : decode cM_again 40 = .ok (.iastore, 1) := by decide +kernel
theorem dM_again_41 : decode cM_again 41 = .ok (.iinc 2 1, 3) := by decide +kernel
theorem dM_again_44 : decode cM_again 44 = .ok (.goto (-42), 3) := by decide +kernel
theorem dM_again_47 : decode cM_again 47 = .ok (.iconst 0, 1) := by decide +kernel
theorem dM_again_48 : decode cM_again 48 = .ok (.istore_n 2, 1) := by decide +kernel
theorem dM_again_49 : decode cM_again 49 = .ok (.iload_n 2, 1) := by decide +kernel
theorem dM_again_50 : decode cM_again 50 = .ok (.bipush 7, 2) := by decide +kernel
theorem dM_again_52 : decode cM_again 52 = .ok (.if_icmp .ge 69, 3) := by decide +kernel
theorem dM_again_55 : decode cM_again 55 = .ok (.aload_n 0, 1) := by decide +kernel
theorem dM_again_56 : decode cM_again 56 = .ok (.getfield 16, 3) := by decide +kernel
theorem dM_again_59 : decode cM_again 59 = .ok (.iload_n 2, 1) := by decide +kernel
theorem dM_again_60 : decode cM_again 60 = .ok (.aload_n 1, 1) := by decide +kernel
theorem dM_again_61 : decode cM_again 61 = .ok (.bipush 12, 2) := by decide +kernel
theorem dM_again_63 : decode cM_again 63 = .ok (.iload_n 2, 1) := by decide +kernel
theorem dM_again_64 : decode cM_again 64 = .ok (.iadd, 1) := by decide +kernel
theorem dM_again_65 : decode cM_again 65 = .ok (.iaload, 1) := by decide +kernel
theorem dM_again_66 : decode cM_again 66 = .ok (.iastore, 1) := by decide +kernel
theorem dM_again_67 : decode cM_again 67 = .ok (.aload_n 0, 1) := by decide +kernel
theorem dM_again_68 : decode cM_again 68 = .ok (.getfield 19, 3) := by decide +kernel
theorem dM_again_71 : decode cM_again 71 = .ok (.iload_n 2, 1) := by decide +kernel
theorem dM_again_72 : decode cM_again 72 = .ok (.aload_n 1, 1) := by decide +kernel
theorem dM_again_73 : decode cM_again 73 = .ok (.bipush 19, 2) := by decide +kernel
theorem dM_again_75 : decode cM_again 75 = .ok (.iload_n 2, 1) := by decide +kernel
theorem dM_again_76 : decode cM_again 76 = .ok (.iadd, 1) := by decide +kernel
theorem dM_again_77 : decode cM_again 77 = .ok (.iaload, 1) := by decide +kernel
theorem dM_again_78 : decode cM_again 78 = .ok (.iastore, 1) := by decide +kernel
theorem dM_again_79 : decode cM_again 79 = .ok (.aload_n 0, 1) := by decide +kernel
theorem dM_again_80 : decode cM_again 80 = .ok (.getfield 22, 3) := by decide +kernel
theorem dM_again_83 : decode cM_again 83 = .ok (.iload_n 2, 1) := by decide +kernel
theorem dM_again_84 : decode cM_again 84 = .ok (.aload_n 1, 1) := by decide +kernel
theorem dM_again_85 : decode cM_again 85 = .ok (.bipush 26, 2) := by decide +kernel
theorem dM_again_87 : decode cM_again 87 = .ok (.iload_n 2, 1) := by decide +kernel
theorem dM_again_88 : decode cM_again 88 = .ok (.iadd, 1) := by decide +kernel
theorem dM_again_89 : decode cM_again 89 = .ok (.iaload, 1) := by decide +kernel
theorem dM_again_90 : decode cM_again 90 = .ok (.iastore, 1) := by decide +kernel
theorem dM_again_91 : decode cM_again 91 = .ok (.aload_n 0, 1) := by decide +kernel
theorem dM_again_92 : decode cM_again 92 = .ok (.getfield 25, 3) := by decide +kernel
theorem dM_again_95 : decode cM_again 95 = .ok (.iload_n 2, 1) := by decide +kernel
theorem dM_again_96 : decode cM_again 96 = .ok (.aload_n 1, 1) := by decide +kernel
theorem dM_again_97 : decode cM_again 97 = .ok (.bipush 33, 2) := by decide +kernel
theorem dM_again_99 : decode cM_again 99 = .ok (.iload_n 2, 1) := by decide +kernel
theorem dM_again_100 : decode cM_again 100 = .ok (.iadd, 1) := by decide +kernel
theorem dM_again_101 : decode cM_again 101 = .ok (.iaload, 1) := by decide +kernel
theorem dM_again_102 : decode cM_again 102 = .ok (.iastore, 1) := by decide +kernel
theorem dM_again_103 : decode cM_again 103 = .ok (.aload_n 0, 1) := by decide +kernel
theorem dM_again_104 : decode cM_again 104 = .ok (.getfield 28, 3) := by decide +kernel
theorem dM_again_107 : decode cM_again 107 = .ok (.iload_n 2, 1) := by decide +kernel
theorem dM_again_108 : decode cM_again 108 = .ok (.aload_n 1, 1) := by decide +kernel
theorem dM_again_109 : decode cM_again 109 = .ok (.bipush 40, 2) := by decide +kernel
theorem dM_again_111 : decode cM_again 111 = .ok (.iload_n 2, 1) := by decide +kernel
theorem dM_again_112 : decode cM_again 112 = .ok (.iadd, 1) := by decide +kernel
theorem dM_again_113 : decode cM_again 113 = .ok (.iaload, 1) := by decide +kernel
theorem dM_again_114 : decode cM_again 114 = .ok (.iastore, 1) := by decide +kernel
theorem dM_again_115 : decode cM_again 115 = .ok (.iinc 2 1, 3) := by decide +kernel
theorem dM_again_118 : decode cM_again 118 = .ok (.goto (-69), 3) := by decide +kernel
theorem dM_again_121 : decode cM_again 121 = .ok (.iconst 0, 1) := by decide +kernel
theorem dM_again_122 : decode cM_again 122 = .ok (.istore_n 2, 1) := by decide +kernel
theorem dM_again_123 : decode cM_again 123 = .ok (.iload_n 2, 1) := by decide +kernel
theorem dM_again_124 : decode cM_again 124 = .ok (.iconst 5, 1) := by decide +kernel
theorem dM_again_125 : decode cM_again 125 = .ok (.if_icmp .ge 57, 3) := by decide +kernel
theorem dM_again_128 : decode cM_again 128 = .ok (.aload_n 0, 1) := by decide +kernel
theorem dM_again_129 : decode cM_again 129 = .ok (.getfield 31, 3) := by decide +kernel
theorem dM_again_132 : decode cM_again 132 = .ok (.iload_n 2, 1) := by decide +kernel
theorem dM_again_133 : decode cM_again 133 = .ok (.aload_n 1, 1) := by decide +kernel
theorem dM_again_134 : decode cM_again 134 = .ok (.bipush 47, 2) := by decide +kernel
theorem dM_again_136 : decode cM_again 136 = .ok (.iload_n 2, 1) := by decide +kernel
theorem dM_again_137 : decode cM_again 137 = .ok (.iadd, 1) := by decide +kernel
theorem dM_again_138 : decode cM_again 138 = .ok (.iaload, 1) := by decide +kernel
theorem dM_again_139 : decode cM_again 139 = .ok (.iastore, 1) := by decide +kernel
theorem dM_again_140 : decode cM_again 140 = .ok (.aload_n 0, 1) := by decide +kernel
theorem dM_again_141 : decode cM_again 141 = .ok (.getfield 34, 3) := by decide +kernel
theorem dM_again_144 : decode cM_again 144 = .ok (.iload_n 2, 1) := by decide +kernel
theorem dM_again_145 : decode cM_again 145 = .ok (.aload_n 1, 1) := by decide +kernel
theorem dM_again_146 : decode cM_again 146 = .ok (.bipush 52, 2) := by decide +kernel
theorem dM_again_148 : decode cM_again 148 = .ok (.iload_n 2, 1) := by decide +kernel
theorem dM_again_149 : decode cM_again 149 = .ok (.iadd, 1) := by decide +kernel
theorem dM_again_150 : decode cM_again 150 = .ok (.iaload, 1) := by decide +kernel
theorem dM_again_151 : decode cM_again 151 = .ok (.iastore, 1) := by decide +kernel
theorem dM_again_152 : decode cM_again 152 = .ok (.aload_n 0, 1) := by decide +kernel
theorem dM_again_153 : decode cM_again 153 = .ok (.getfield 37, 3) := by decide +kernel
theorem dM_again_156 : decode cM_again 156 = .ok (.iload_n 2, 1) := by decide +kernel
theorem dM_again_157 : decode cM_again 157 = .ok (.aload_n 1, 1) := by decide +kernel
theorem dM_again_158 : decode cM_again 158 = .ok (.bipush 57, 2) := by decide +kernel
theorem dM_again_160 : decode cM_again 160 = .ok (.iload_n 2, 1) := by decide +kernel
theorem dM_again_161 : decode cM_again 161 = .ok (.iadd, 1) := by decide +kernel
theorem dM_again_162 : decode cM_again 162 = .ok (.iaload, 1) := by decide +kernel
theorem dM_again_163 : decode cM_again 163 = .ok (.iastore, 1) := by decide +kernel
theorem dM_again_164 : decode cM_again 164 = .ok (.aload_n 0, 1) := by decide +kernel
theorem dM_again_165 : decode cM_again 165 = .ok (.getfield 40, 3) := by decide +kernel
theorem dM_again_168 : decode cM_again 168 = .ok (.iload_n 2, 1) := by decide +kernel
theorem dM_again_169 : decode cM_again 169 = .ok (.aload_n 1, 1) := by decide +kernel
theorem dM_again_170 : decode cM_again 170 = .ok (.bipush 62, 2) := by decide +kernel
theorem dM_again_172 : decode cM_again 172 = .ok (.iload_n 2, 1) := by decide +kernel
theorem dM_again_173 : decode cM_again 173 = .ok (.iadd, 1) := by decide +kernel
theorem dM_again_174 : decode cM_again 174 = .ok (.iaload, 1) := by decide +kernel
theorem dM_again_175 : decode cM_again 175 = .ok (.iastore, 1) := by decide +kernel
theorem dM_again_176 : decode cM_again 176 = .ok (.iinc 2 1, 3) := by decide +kernel
theorem dM_again_179 : decode cM_again 179 = .ok (.goto (-56), 3) := by decide +kernel
theorem dM_again_182 : decode cM_again 182 = .ok (.aload_n 0, 1) := by decide +kernel
theorem dM_again_183 : decode cM_again 183 = .ok (.aload_n 1, 1) := by decide +kernel
theorem dM_again_184 : decode cM_again 184 = .ok (.bipush 73, 2) := by decide +kernel
theorem dM_again_186 : decode cM_again 186 = .ok (.iaload, 1) := by decide +kernel
theorem dM_again_187 : decode cM_again 187 = .ok (.putfield 77, 3) := by decide +kernel
theorem dM_again_190 : decode cM_again 190 = .ok (.aload_n 0, 1) := by decide +kernel
theorem dM_again_191 : decode cM_again 191 = .ok (.aload_n 1, 1) := by decide +kernel
theorem dM_again_192 : decode cM_again 192 = .ok (.bipush 74, 2) := by decide +kernel
theorem dM_again_194 : decode cM_again 194 = .ok (.iaload, 1) := by decide +kernel
theorem dM_again_195 : decode cM_again 195 = .ok (.putfield 81, 3) := by decide +kernel
theorem dM_again_198 : decode cM_again 198 = .ok (.aload_n 0, 1) := by decide +kernel
theorem dM_again_199 : decode cM_again 199 = .ok (.aload_n 1, 1) := by decide +kernel
theorem dM_again_200 : decode cM_again 200 = .ok (.bipush 75, 2) := by decide +kernel
theorem dM_again_202 : decode cM_again 202 = .ok (.iaload, 1) := by decide +kernel
theorem dM_again_203 : decode cM_again 203 = .ok (.putfield 146, 3) := by decide +kernel
theorem dM_again_206 : decode cM_again 206 = .ok (.aload_n 0, 1) := by decide +kernel
theorem dM_again_207 : decode cM_again 207 = .ok (.aload_n 1, 1) := by decide +kernel
theorem dM_again_208 : decode cM_again 208 = .ok (.bipush 76, 2) := by decide +kernel
theorem dM_again_210 : decode cM_again 210 = .ok (.iaload, 1) := by decide +kernel
theorem dM_again_211 : decode cM_again 211 = .ok (.putfield 149, 3) := by decide +kernel
theorem dM_again_214 : decode cM_again 214 = .ok (.return_, 1) := by decide +kernel
theorem dM_air_0 : decode cM_air 0 = .ok (.iload_n 1, 1) := by decide +kernel
theorem dM_air_1 : decode cM_air 1 = .ok (.invokestatic 152, 3) := by decide +kernel
theorem dM_air_4 : decode cM_air 4 = .ok (.ifCond .ne 9, 3) := by decide +kernel
theorem dM_air_7 : decode cM_air 7 = .ok (.aload_n 0, 1) := by decide +kernel
theorem dM_air_8 : decode cM_air 8 = .ok (.iconst (-1), 1) := by decide +kernel
theorem dM_air_9 : decode cM_air 9 = .ok (.invokevirtual 84, 3) := by decide +kernel
theorem dM_air_12 : decode cM_air 12 = .ok (.ireturn, 1) := by decide +kernel
theorem dM_air_13 : decode cM_air 13 = .ok (.iload_n 2, 1) := by decide +kernel
theorem dM_air_14 : decode cM_air 14 = .ok (.ifCond .ge 10, 3) := by decide +kernel
theorem dM_air_17 : decode cM_air 17 = .ok (.aload_n 0, 1) := by decide +kernel
theorem dM_air_18 : decode cM_air 18 = .ok (.bipush (-4), 2) := by decide +kernel
theorem dM_air_20 : decode cM_air 20 = .ok (.invokevirtual 84, 3) := by decide +kernel
theorem dM_air_23 : decode cM_air 23 = .ok (.ireturn, 1) := by decide +kernel
theorem dM_air_24 : decode cM_air 24 = .ok (.iload_n 2, 1) := by decide +kernel
theorem dM_air_25 : decode cM_air 25 = .ok (.bipush 99, 2) := by decide +kernel
theorem dM_air_27 : decode cM_air 27 = .ok (.if_icmp .le 10, 3) := by decide +kernel
theorem dM_air_30 : decode cM_air 30 = .ok (.aload_n 0, 1) := by decide +kernel
theorem dM_air_31 : decode cM_air 31 = .ok (.bipush (-6), 2) := by decide +kernel
theorem dM_air_33 : decode cM_air 33 = .ok (.invokevirtual 84, 3) := by decide +kernel
theorem dM_air_36 : decode cM_air 36 = .ok (.ireturn, 1) := by decide +kernel
theorem dM_air_37 : decode cM_air 37 = .ok (.aload_n 0, 1) := by decide +kernel
theorem dM_air_38 : decode cM_air 38 = .ok (.aload_n 0, 1) := by decide +kernel
theorem dM_air_39 : decode cM_air 39 = .ok (.getfield 61, 3) := by decide +kernel
theorem dM_air_42 : decode cM_air 42 = .ok (.invokevirtual 130, 3) := by decide +kernel
theorem dM_air_45 : decode cM_air 45 = .ok (.aload_n 0, 1) := by decide +kernel
theorem dM_air_46 : decode cM_air 46 = .ok (.iload_n 2, 1) := by decide +kernel
theorem dM_air_47 : decode cM_air 47 = .ok (.invokevirtual 161, 3) := by decide +kernel
theorem dM_air_50 : decode cM_air 50 = .ok (.pop, 1) := by decide +kernel
theorem dM_air_51 : decode cM_air 51 = .ok (.aload_n 0, 1) := by decide +kernel
theorem dM_air_52 : decode cM_air 52 = .ok (.getfield 7, 3) := by decide +kernel
theorem dM_air_55 : decode cM_air 55 = .ok (.iload_n 1, 1) := by decide +kernel
theorem dM_air_56 : decode cM_air 56 = .ok (.iaload, 1) := by decide +kernel
theorem dM_air_57 : decode cM_air 57 = .ok (.istore_n 3, 1) := by decide +kernel
theorem dM_air_58 : decode cM_air 58 = .ok (.aload_n 0, 1) := by decide +kernel
theorem dM_air_59 : decode cM_air 59 = .ok (.aload_n 0, 1) := by decide +kernel
theorem dM_air_60 : decode cM_air 60 = .ok (.getfield 61, 3) := by decide +kernel
theorem dM_air_63 : decode cM_air 63 = .ok (.invokevirtual 134, 3) := by decide +kernel
theorem dM_air_66 : decode cM_air 66 = .ok (.iload_n 3, 1) := by decide +kernel
theorem dM_air_67 : decode cM_air 67 = .ok (.ireturn, 1) := by decide +kernel
theorem dM_bare_0 : decode cM_bare 0 = .ok (.iconst 1, 1) := by decide +kernel
theorem dM_bare_1 : decode cM_bare 1 = .ok (.aload_n 0, 1) := by decide +kernel
theorem dM_bare_2 : decode cM_bare 2 = .ok (.getfield 81, 3) := by decide +kernel
theorem dM_bare_5 : decode cM_bare 5 = .ok (.ishl, 1) := by decide +kernel
theorem dM_bare_6 : decode cM_bare 6 = .ok (.iconst 1, 1) := by decide +kernel
theorem dM_bare_7 : decode cM_bare 7 = .ok (.isub, 1) := by decide +kernel
theorem dM_bare_8 : decode cM_bare 8 = .ok (.istore_n 1, 1) := by decide +kernel
theorem dM_bare_9 : decode cM_bare 9 = .ok (.iload_n 1, 1) := by decide +kernel
theorem dM_bare_10 : decode cM_bare 10 = .ok (.istore_n 2, 1) := by decide +kernel
theorem dM_bare_11 : decode cM_bare 11 = .ok (.iload_n 2, 1) := by decide +kernel
theorem dM_bare_12 : decode cM_bare 12 = .ok (.ifCond .lt 51, 3) := by decide +kernel
theorem dM_bare_15 : decode cM_bare 15 = .ok (.iload_n 2, 1) := by decide +kernel
theorem dM_bare_16 : decode cM_bare 16 = .ok (.invokestatic 184, 3) := by decide +kernel
theorem dM_bare_19 : decode cM_bare 19 = .ok (.iload_n 1, 1) := by decide +kernel
theorem dM_bare_20 : decode cM_bare 20 = .ok (.invokestatic 184, 3) := by decide +kernel
theorem dM_bare_23 : decode cM_bare 23 = .ok (.if_icmp .gt 7, 3) := by decide +kernel
theorem dM_bare_26 : decode cM_bare 26 = .ok (.iconst 1, 1) := by decide +kernel
theorem dM_bare_27 : decode cM_bare 27 = .ok (.goto 4, 3) := by decide +kernel
theorem dM_bare_30 : decode cM_bare 30 = .ok (.iconst 0, 1) := by decide +kernel
theorem dM_bare_31 : decode cM_bare 31 = .ok (.istore_n 3, 1) := by decide +kernel
theorem dM_bare_32 : decode cM_bare 32 = .ok (.iload_n 3, 1) := by decide +kernel
theorem dM_bare_33 : decode cM_bare 33 = .ok (.ifCond .eq 24, 3) := by decide +kernel
theorem dM_bare_36 : decode cM_bare 36 = .ok (.aload_n 0, 1) := by decide +kernel
theorem dM_bare_37 : decode cM_bare 37 = .ok (.iconst 1, 1) := by decide +kernel
theorem dM_bare_38 : decode cM_bare 38 = .ok (.aload_n 0, 1) := by decide +kernel
theorem dM_bare_39 : decode cM_bare 39 = .ok (.getfield 81, 3) := by decide +kernel
theorem dM_bare_42 : decode cM_bare 42 = .ok (.ishl, 1) := by decide +kernel
theorem dM_bare_43 : decode cM_bare 43 = .ok (.iconst 1, 1) := by decide +kernel
theorem dM_bare_44 : decode cM_bare 44 = .ok (.isub, 1) := by decide +kernel
theorem dM_bare_45 : decode cM_bare 45 = .ok (.iload_n 2, 1) := by decide +kernel
theorem dM_bare_46 : decode cM_bare 46 = .ok (.iconst (-1), 1) := by decide +kernel
theorem dM_bare_47 : decode cM_bare 47 = .ok (.ixor, 1) := by decide +kernel
theorem dM_bare_48 : decode cM_bare 48 = .ok (.iand, 1) := by decide +kernel
theorem dM_bare_49 : decode cM_bare 49 = .ok (.invokevirtual 189, 3) := by decide +kernel
theorem dM_bare_52 : decode cM_bare 52 = .ok (.ifCond .eq 5, 3) := by decide +kernel
theorem dM_bare_55 : decode cM_bare 55 = .ok (.iload_n 2, 1) := by decide +kernel
theorem dM_bare_56 : decode cM_bare 56 = .ok (.istore_n 1, 1) := by decide +kernel
theorem dM_bare_57 : decode cM_bare 57 = .ok (.iinc 2 (-1), 3) := by decide +kernel
theorem dM_bare_60 : decode cM_bare 60 = .ok (.goto (-49), 3) := by decide +kernel
theorem dM_bare_63 : decode cM_bare 63 = .ok (.iload_n 1, 1) := by decide +kernel
theorem dM_bare_64 : decode cM_bare 64 = .ok (.ireturn, 1) := by decide +kernel
theorem dM_breath_0 : decode cM_breath 0 = .ok (.aload_n 0, 1) := by decide +kernel
theorem dM_breath_1 : decode cM_breath 1 = .ok (.getfield 34, 3) := by decide +kernel
theorem dM_breath_4 : decode cM_breath 4 = .ok (.iload_n 1, 1) := by decide +kernel
theorem dM_breath_5 : decode cM_breath 5 = .ok (.iaload, 1) := by decide +kernel
theorem dM_breath_6 : decode cM_breath 6 = .ok (.bipush 6, 2) := by decide +kernel
theorem dM_breath_8 : decode cM_breath 8 = .ok (.if_icmp .ne 5, 3) := by decide +kernel
theorem dM_breath_11 : decode cM_breath 11 = .ok (.iconst 0, 1) := by decide +kernel
theorem dM_breath_12 : decode cM_breath 12 = .ok (.ireturn, 1) := by decide +kernel
theorem dM_breath_13 : decode cM_breath 13 = .ok (.aload_n 0, 1) := by decide +kernel
theorem dM_breath_14 : decode cM_breath 14 = .ok (.getfield 31, 3) := by decide +kernel
theorem dM_breath_17 : decode cM_breath 17 = .ok (.iload_n 1, 1) := by decide +kernel
theorem dM_breath_18 : decode cM_breath 18 = .ok (.iaload, 1) := by decide +kernel
theorem dM_breath_19 : decode cM_breath 19 = .ok (.tableswitch 61 1 5 #[33, 35, 37, 39, 41], 33) := by decide +kernel
theorem dM_breath_52 : decode cM_breath 52 = .ok (.iconst 1, 1) := by decide +kernel
theorem dM_breath_53 : decode cM_breath 53 = .ok (.ireturn, 1) := by decide +kernel
theorem dM_breath_54 : decode cM_breath 54 = .ok (.iconst 4, 1) := by decide +kernel
theorem dM_breath_55 : decode cM_breath 55 = .ok (.ireturn, 1) := by decide +kernel
theorem dM_breath_56 : decode cM_breath 56 = .ok (.iconst 3, 1) := by decide +kernel
theorem dM_breath_57 : decode cM_breath 57 = .ok (.ireturn, 1) := by decide +kernel
theorem dM_breath_58 : decode cM_breath 58 = .ok (.iconst 0, 1) := by decide +kernel
theorem dM_breath_59 : decode cM_breath 59 = .ok (.ireturn, 1) := by decide +kernel
theorem dM_breath_60 : decode cM_breath 60 = .ok (.aload_n 0, 1) := by decide +kernel
theorem dM_breath_61 : decode cM_breath 61 = .ok (.aload_n 0, 1) := by decide +kernel
theorem dM_breath_62 : decode cM_breath 62 = .ok (.getfield 34, 3) := by decide +kernel
theorem dM_breath_65 : decode cM_breath 65 = .ok (.iload_n 1, 1) := by decide +kernel
theorem dM_breath_66 : decode cM_breath 66 = .ok (.iaload, 1) := by decide +kernel
theorem dM_breath_67 : decode cM_breath 67 = .ok (.invokevirtual 137, 3) := by decide +kernel
theorem dM_breath_70 : decode cM_breath 70 = .ok (.iconst 1, 1) := by decide +kernel
theorem dM_breath_71 : decode cM_breath 71 = .ok (.if_icmp .ne 7, 3) := by decide +kernel
theorem dM_breath_74 : decode cM_breath 74 = .ok (.iconst 0, 1) := by decide +kernel
theorem dM_breath_75 : decode cM_breath 75 = .ok (.goto 4, 3) := by decide +kernel
theorem dM_breath_78 : decode cM_breath 78 = .ok (.iconst 1, 1) := by decide +kernel
theorem dM_breath_79 : decode cM_breath 79 = .ok (.ireturn, 1) := by decide +kernel
theorem dM_breath_80 : decode cM_breath 80 = .ok (.iconst 2, 1) := by decide +kernel
theorem dM_breath_81 : decode cM_breath 81 = .ok (.ireturn, 1) := by decide +kernel
theorem dM_breathed_0 : decode cM_breathed 0 = .ok (.iconst 0, 1) := by decide +kernel
theorem dM_breathed_1 : decode cM_breathed 1 = .ok (.istore_n 2, 1) := by decide +kernel
theorem dM_breathed_2 : decode cM_breathed 2 = .ok (.iconst 0, 1) := by decide +kernel
theorem dM_breathed_3 : decode cM_breathed 3 = .ok (.istore_n 3, 1) := by decide +kernel
theorem dM_breathed_4 : decode cM_breathed 4 = .ok (.iload_n 3, 1) := by decide +kernel
theorem dM_breathed_5 : decode cM_breathed 5 = .ok (.aload_n 0, 1) := by decide +kernel
theorem dM_breathed_6 : decode cM_breathed 6 = .ok (.getfield 81, 3) := by decide +kernel
theorem dM_breathed_9 : decode cM_breathed 9 = .ok (.if_icmp .ge 27, 3) := by decide +kernel
theorem dM_breathed_12 : decode cM_breathed 12 = .ok (.aload_n 0, 1) := by decide +kernel
theorem dM_breathed_13 : decode cM_breathed 13 = .ok (.getfield 34, 3) := by decide +kernel
theorem dM_breathed_16 : decode cM_breathed 16 = .ok (.iload_n 3, 1) := by decide +kernel
theorem dM_breathed_17 : decode cM_breathed 17 = .ok (.iaload, 1) := by decide +kernel
theorem dM_breathed_18 : decode cM_breathed 18 = .ok (.iload_n 1, 1) := by decide +kernel
theorem dM_breathed_19 : decode cM_breathed 19 = .ok (.if_icmp .ne 11, 3) := by decide +kernel
theorem dM_breathed_22 : decode cM_breathed 22 = .ok (.iload_n 2, 1) := by decide +kernel
theorem dM_breathed_23 : decode cM_breathed 23 = .ok (.aload_n 0, 1) := by decide +kernel
theorem dM_breathed_24 : decode cM_breathed 24 = .ok (.iload_n 3, 1) := by decide +kernel
theorem dM_breathed_25 : decode cM_breathed 25 = .ok (.invokevirtual 140, 3) := by decide +kernel
theorem dM_breathed_28 : decode cM_breathed 28 = .ok (.iadd, 1) := by decide +kernel
theorem dM_breathed_29 : decode cM_breathed 29 = .ok (.istore_n 2, 1) := by decide +kernel
theorem dM_breathed_30 : decode cM_breathed 30 = .ok (.iinc 3 1, 3) := by decide +kernel
theorem dM_breathed_33 : decode cM_breathed 33 = .ok (.goto (-29), 3) := by decide +kernel
theorem dM_breathed_36 : decode cM_breathed 36 = .ok (.iload_n 2, 1) := by decide +kernel
theorem dM_breathed_37 : decode cM_breathed 37 = .ok (.ireturn, 1) := by decide +kernel
theorem dM_burrow_0 : decode cM_burrow 0 = .ok (.aload_n 0, 1) := by decide +kernel
theorem dM_burrow_1 : decode cM_burrow 1 = .ok (.iconst 0, 1) := by decide +kernel
theorem dM_burrow_2 : decode cM_burrow 2 = .ok (.putfield 91, 3) := by decide +kernel
theorem dM_burrow_5 : decode cM_burrow 5 = .ok (.iconst 1, 1) := by decide +kernel
theorem dM_burrow_6 : decode cM_burrow 6 = .ok (.istore_n 1, 1) := by decide +kernel
theorem dM_burrow_7 : decode cM_burrow 7 = .ok (.iload_n 1, 1) := by decide +kernel
theorem dM_burrow_8 : decode cM_burrow 8 = .ok (.ifCond .eq 45, 3) := by decide +kernel
theorem dM_burrow_11 : decode cM_burrow 11 = .ok (.aload_n 0, 1) := by decide +kernel
theorem dM_burrow_12 : decode cM_burrow 12 = .ok (.iconst 0, 1) := by decide +kernel
theorem dM_burrow_13 : decode cM_burrow 13 = .ok (.invokevirtual 126, 3) := by decide +kernel
theorem dM_burrow_16 : decode cM_burrow 16 = .ok (.iconst 1, 1) := by decide +kernel
theorem dM_burrow_17 : decode cM_burrow 17 = .ok (.if_icmp .ne 16, 3) := by decide +kernel
theorem dM_burrow_20 : decode cM_burrow 20 = .ok (.aload_n 0, 1) := by decide +kernel
theorem dM_burrow_21 : decode cM_burrow 21 = .ok (.bipush 59, 2) := by decide +kernel
theorem dM_burrow_23 : decode cM_burrow 23 = .ok (.invokevirtual 107, 3) := by decide +kernel
theorem dM_burrow_26 : decode cM_burrow 26 = .ok (.ifCond .eq 7, 3) := by decide +kernel
theorem dM_burrow_29 : decode cM_burrow 29 = .ok (.iconst 1, 1) := by decide +kernel
theorem dM_burrow_30 : decode cM_burrow 30 = .ok (.goto 4, 3) := by decide +kernel
theorem dM_burrow_33 : decode cM_burrow 33 = .ok (.iconst 0, 1) := by decide +kernel
theorem dM_burrow_34 : decode cM_burrow 34 = .ok (.istore_n 1, 1) := by decide +kernel
theorem dM_burrow_35 : decode cM_burrow 35 = .ok (.iload_n 1, 1) := by decide +kernel
theorem dM_burrow_36 : decode cM_burrow 36 = .ok (.ifCond .eq (-29), 3) := by decide +kernel
theorem dM_burrow_39 : decode cM_burrow 39 = .ok (.aload_n 0, 1) := by decide +kernel
theorem dM_burrow_40 : decode cM_burrow 40 = .ok (.getfield 91, 3) := by decide +kernel
theorem dM_burrow_43 : decode cM_burrow 43 = .ok (.aload_n 0, 1) := by decide +kernel
theorem dM_burrow_44 : decode cM_burrow 44 = .ok (.getfield 88, 3) := by decide +kernel
theorem dM_burrow_47 : decode cM_burrow 47 = .ok (.if_icmp .ne (-40), 3) := by decide +kernel
theorem dM_burrow_50 : decode cM_burrow 50 = .ok (.goto 3, 3) := by decide +kernel
theorem dM_burrow_53 : decode cM_burrow 53 = .ok (.iload_n 1, 1) := by decide +kernel
theorem dM_burrow_54 : decode cM_burrow 54 = .ok (.ifCond .ne 17, 3) := by decide +kernel
theorem dM_burrow_57 : decode cM_burrow 57 = .ok (.aload_n 0, 1) := by decide +kernel
theorem dM_burrow_58 : decode cM_burrow 58 = .ok (.iconst 0, 1) := by decide +kernel
theorem dM_burrow_59 : decode cM_burrow 59 = .ok (.putfield 88, 3) := by decide +kernel
theorem dM_burrow_62 : decode cM_burrow 62 = .ok (.sipush (-1000), 3) := by decide +kernel
theorem dM_burrow_65 : decode cM_burrow 65 = .ok (.aload_n 0, 1) := by decide +kernel
theorem dM_burrow_66 : decode cM_burrow 66 = .ok (.getfield 91, 3) := by decide +kernel
theorem dM_burrow_69 : decode cM_burrow 69 = .ok (.isub, 1) := by decide +kernel
theorem dM_burrow_70 : decode cM_burrow 70 = .ok (.ireturn, 1) := by decide +kernel
theorem dM_burrow_71 : decode cM_burrow 71 = .ok (.aload_n 0, 1) := by decide +kernel
theorem dM_burrow_72 : decode cM_burrow 72 = .ok (.aload_n 0, 1) := by decide +kernel
theorem dM_burrow_73 : decode cM_burrow 73 = .ok (.getfield 61, 3) := by decide +kernel
theorem dM_burrow_76 : decode cM_burrow 76 = .ok (.invokevirtual 130, 3) := by decide +kernel
theorem dM_burrow_79 : decode cM_burrow 79 = .ok (.aload_n 0, 1) := by decide +kernel
theorem dM_burrow_80 : decode cM_burrow 80 = .ok (.iconst 0, 1) := by decide +kernel
theorem dM_burrow_81 : decode cM_burrow 81 = .ok (.putfield 91, 3) := by decide +kernel
theorem dM_burrow_84 : decode cM_burrow 84 = .ok (.iconst 0, 1) := by decide +kernel
theorem dM_burrow_85 : decode cM_burrow 85 = .ok (.istore_n 2, 1) := by decide +kernel
theorem dM_burrow_86 : decode cM_burrow 86 = .ok (.aload_n 0, 1) := by decide +kernel
theorem dM_burrow_87 : decode cM_burrow 87 = .ok (.getfield 91, 3) := by decide +kernel
theorem dM_burrow_90 : decode cM_burrow 90 = .ok (.aload_n 0, 1) := by decide +kernel
theorem dM_burrow_91 : decode cM_burrow 91 = .ok (.getfield 88, 3) := by decide +kernel
theorem dM_burrow_94 : decode cM_burrow 94 = .ok (.if_icmp .ge 48, 3) := by decide +kernel
theorem dM_burrow_97 : decode cM_burrow 97 = .ok (.aload_n 0, 1) := by decide +kernel
theorem dM_burrow_98 : decode cM_burrow 98 = .ok (.getfield 91, 3) := by decide +kernel
theorem dM_burrow_101 : decode cM_burrow 101 = .ok (.istore_n 3, 1) := by decide +kernel
theorem dM_burrow_102 : decode cM_burrow 102 = .ok (.aload_n 0, 1) := by decide +kernel
theorem dM_burrow_103 : decode cM_burrow 103 = .ok (.iconst 1, 1) := by decide +kernel
theorem dM_burrow_104 : decode cM_burrow 104 = .ok (.invokevirtual 126, 3) := by decide +kernel
theorem dM_burrow_107 : decode cM_burrow 107 = .ok (.ifCond .ne 22, 3) := by decide +kernel
theorem dM_burrow_110 : decode cM_burrow 110 = .ok (.aload_n 0, 1) := by decide +kernel
theorem dM_burrow_111 : decode cM_burrow 111 = .ok (.aload_n 0, 1) := by decide +kernel
theorem dM_burrow_112 : decode cM_burrow 112 = .ok (.getfield 61, 3) := by decide +kernel
theorem dM_burrow_115 : decode cM_burrow 115 = .ok (.invokevirtual 134, 3) := by decide +kernel
theorem dM_burrow_118 : decode cM_burrow 118 = .ok (.aload_n 0, 1) := by decide +kernel
theorem dM_burrow_119 : decode cM_burrow 119 = .ok (.iconst 0, 1) := by decide +kernel
theorem dM_burrow_120 : decode cM_burrow 120 = .ok (.putfield 88, 3) := by decide +kernel
theorem dM_burrow_123 : decode cM_burrow 123 = .ok (.sipush (-2000), 3) := by decide +kernel
theorem dM_burrow_126 : decode cM_burrow 126 = .ok (.iload_n 3, 1) := by decide +kernel
theorem dM_burrow_127 : decode cM_burrow 127 = .ok (.isub, 1) := by decide +kernel
theorem dM_burrow_128 : decode cM_burrow 128 = .ok (.ireturn, 1) := by decide +kernel
theorem dM_burrow_129 : decode cM_burrow 129 = .ok (.aload_n 0, 1) := by decide +kernel
theorem dM_burrow_130 : decode cM_burrow 130 = .ok (.bipush 59, 2) := by decide +kernel
theorem dM_burrow_132 : decode cM_burrow 132 = .ok (.invokevirtual 107, 3) := by decide +kernel
theorem dM_burrow_135 : decode cM_burrow 135 = .ok (.pop, 1) := by decide +kernel
theorem dM_burrow_136 : decode cM_burrow 136 = .ok (.iinc 2 1, 3) := by decide +kernel
theorem dM_burrow_139 : decode cM_burrow 139 = .ok (.goto (-53), 3) := by decide +kernel
theorem dM_burrow_142 : decode cM_burrow 142 = .ok (.aload_n 0, 1) := by decide +kernel
theorem dM_burrow_143 : decode cM_burrow 143 = .ok (.iconst 0, 1) := by decide +kernel
theorem dM_burrow_144 : decode cM_burrow 144 = .ok (.putfield 88, 3) := by decide +kernel
theorem dM_burrow_147 : decode cM_burrow 147 = .ok (.iload_n 2, 1) := by decide +kernel
theorem dM_burrow_148 : decode cM_burrow 148 = .ok (.ireturn, 1) := by decide +kernel
theorem dM_canHave_0 : decode cM_canHave 0 = .ok (.iconst 1, 1) := by decide +kernel
theorem dM_canHave_1 : decode cM_canHave 1 = .ok (.istore_n 2, 1) := by decide +kernel
theorem dM_canHave_2 : decode cM_canHave 2 = .ok (.iload_n 2, 1) := by decide +kernel
theorem dM_canHave_3 : decode cM_canHave 3 = .ok (.bipush 7, 2) := by decide +kernel
theorem dM_canHave_5 : decode cM_canHave 5 = .ok (.if_icmp .ge 31, 3) := by decide +kernel
theorem dM_canHave_8 : decode cM_canHave 8 = .ok (.aload_n 0, 1) := by decide +kernel
theorem dM_canHave_9 : decode cM_canHave 9 = .ok (.getfield 70, 3) := by decide +kernel
theorem dM_canHave_12 : decode cM_canHave 12 = .ok (.iload_n 2, 1) := by decide +kernel
theorem dM_canHave_13 : decode cM_canHave 13 = .ok (.iload_n 2, 1) := by decide +kernel
theorem dM_canHave_14 : decode cM_canHave 14 = .ok (.bipush 6, 2) := by decide +kernel
theorem dM_canHave_16 : decode cM_canHave 16 = .ok (.if_icmp .ge 12, 3) := by decide +kernel
theorem dM_canHave_19 : decode cM_canHave 19 = .ok (.aload_n 0, 1) := by decide +kernel
theorem dM_canHave_20 : decode cM_canHave 20 = .ok (.getfield 43, 3) := by decide +kernel
theorem dM_canHave_23 : decode cM_canHave 23 = .ok (.iload_n 2, 1) := by decide +kernel
theorem dM_canHave_24 : decode cM_canHave 24 = .ok (.iaload, 1) := by decide +kernel
theorem dM_canHave_25 : decode cM_canHave 25 = .ok (.goto 4, 3) := by decide +kernel
theorem dM_canHave_28 : decode cM_canHave 28 = .ok (.iconst 0, 1) := by decide +kernel
theorem dM_canHave_29 : decode cM_canHave 29 = .ok (.iastore, 1) := by decide +kernel
theorem dM_canHave_30 : decode cM_canHave 30 = .ok (.iinc 2 1, 3) := by decide +kernel
theorem dM_canHave_33 : decode cM_canHave 33 = .ok (.goto (-31), 3) := by decide +kernel
theorem dM_canHave_36 : decode cM_canHave 36 = .ok (.iconst 1, 1) := by decide +kernel
theorem dM_canHave_37 : decode cM_canHave 37 = .ok (.istore_n 2, 1) := by decide +kernel
theorem dM_canHave_38 : decode cM_canHave 38 = .ok (.iload_n 2, 1) := by decide +kernel
theorem dM_canHave_39 : decode cM_canHave 39 = .ok (.bipush 6, 2) := by decide +kernel
theorem dM_canHave_41 : decode cM_canHave 41 = .ok (.if_icmp .ge 87, 3) := by decide +kernel
theorem dM_canHave_44 : decode cM_canHave 44 = .ok (.iconst 0, 1) := by decide +kernel
theorem dM_canHave_45 : decode cM_canHave 45 = .ok (.istore_n 3, 1) := by decide +kernel
theorem dM_canHave_46 : decode cM_canHave 46 = .ok (.iload_n 3, 1) := by decide +kernel
theorem dM_canHave_47 : decode cM_canHave 47 = .ok (.aload_n 0, 1) := by decide +kernel
theorem dM_canHave_48 : decode cM_canHave 48 = .ok (.getfield 81, 3) := by decide +kernel
theorem dM_canHave_51 : decode cM_canHave 51 = .ok (.if_icmp .ge 71, 3) := by decide +kernel
theorem dM_canHave_54 : decode cM_canHave 54 = .ok (.iload_n 1, 1) := by decide +kernel
theorem dM_canHave_55 : decode cM_canHave 55 = .ok (.iload_n 3, 1) := by decide +kernel
theorem dM_canHave_56 : decode cM_canHave 56 = .ok (.invokestatic 177, 3) := by decide +kernel
theorem dM_canHave_59 : decode cM_canHave 59 = .ok (.ifCond .eq 57, 3) := by decide +kernel
theorem dM_canHave_62 : decode cM_canHave 62 = .ok (.aload_n 0, 1) := by decide +kernel
theorem dM_canHave_63 : decode cM_canHave 63 = .ok (.getfield 37, 3) := by decide +kernel
theorem dM_canHave_66 : decode cM_canHave 66 = .ok (.iload_n 3, 1) := by decide +kernel
theorem dM_canHave_67 : decode cM_canHave 67 = .ok (.iaload, 1) := by decide +kernel
theorem dM_canHave_68 : decode cM_canHave 68 = .ok (.iload_n 2, 1) := by decide +kernel
theorem dM_canHave_69 : decode cM_canHave 69 = .ok (.if_icmp .eq 6, 3) := by decide +kernel
theorem dM_canHave_72 : decode cM_canHave 72 = .ok (.goto 44, 3) := by decide +kernel
theorem dM_canHave_75 : decode cM_canHave 75 = .ok (.aload_n 0, 1) := by decide +kernel
theorem dM_canHave_76 : decode cM_canHave 76 = .ok (.getfield 70, 3) := by decide +kernel
theorem dM_canHave_79 : decode cM_canHave 79 = .ok (.iload_n 2, 1) := by decide +kernel
theorem dM_canHave_80 : decode cM_canHave 80 = .ok (.iaload, 1) := by decide +kernel
theorem dM_canHave_81 : decode cM_canHave 81 = .ok (.ifCond .le 7, 3) := by decide +kernel
theorem dM_canHave_84 : decode cM_canHave 84 = .ok (.iload_n 2, 1) := by decide +kernel
theorem dM_canHave_85 : decode cM_canHave 85 = .ok (.goto 6, 3) := by decide +kernel
theorem dM_canHave_88 : decode cM_canHave 88 = .ok (.iload_n 2, 1) := by decide +kernel
theorem dM_canHave_89 : decode cM_canHave 89 = .ok (.iconst 1, 1) := by decide +kernel
theorem dM_canHave_90 : decode cM_canHave 90 = .ok (.iadd, 1) := by decide +kernel
theorem dM_canHave_91 : decode cM_canHave 91 = .ok (.istore 4, 2) := by decide +kernel
theorem dM_canHave_93 : decode cM_canHave 93 = .ok (.aload_n 0, 1) := by decide +kernel
theorem dM_canHave_94 : decode cM_canHave 94 = .ok (.getfield 70, 3) := by decide +kernel
theorem dM_canHave_97 : decode cM_canHave 97 = .ok (.iload 4, 2) := by decide +kernel
theorem dM_canHave_99 : decode cM_canHave 99 = .ok (.iaload, 1) := by decide +kernel
theorem dM_canHave_100 : decode cM_canHave 100 = .ok (.ifCond .ne 5, 3) := by decide +kernel
theorem dM_canHave_103 : decode cM_canHave 103 = .ok (.iconst 0, 1) := by decide +kernel
theorem dM_canHave_104 : decode cM_canHave 104 = .ok (.ireturn, 1) := by decide +kernel
theorem dM_canHave_105 : decode cM_canHave 105 = .ok (.aload_n 0, 1) := by decide +kernel
theorem dM_canHave_106 : decode cM_canHave 106 = .ok (.getfield 70, 3) := by decide +kernel
theorem dM_canHave_109 : decode cM_canHave 109 = .ok (.iload 4, 2) := by decide +kernel
theorem dM_canHave_111 : decode cM_canHave 111 = .ok (.dup2, 1) := by decide +kernel
theorem dM_canHave_112 : decode cM_canHave 112 = .ok (.iaload, 1) := by decide +kernel
theorem dM_canHave_113 : decode cM_canHave 113 = .ok (.iconst 1, 1) := by decide +kernel
theorem dM_canHave_114 : decode cM_canHave 114 = .ok (.isub, 1) := by decide +kernel
theorem dM_canHave_115 : decode cM_canHave 115 = .ok (.iastore, 1) := by decide +kernel
theorem dM_canHave_116 : decode cM_canHave 116 = .ok (.iinc 3 1, 3) := by decide +kernel
theorem dM_canHave_119 : decode cM_canHave 119 = .ok (.goto (-73), 3) := by decide +kernel
theorem dM_canHave_122 : decode cM_canHave 122 = .ok (.iinc 2 1, 3) := by decide +kernel
theorem dM_canHave_125 : decode cM_canHave 125 = .ok (.goto (-87), 3) := by decide +kernel
theorem dM_canHave_128 : decode cM_canHave 128 = .ok (.iconst 1, 1) := by decide +kernel
theorem dM_canHave_129 : decode cM_canHave 129 = .ok (.ireturn, 1) := by decide +kernel
theorem dM_canPass_0 : decode cM_canPass 0 = .ok (.aload_n 0, 1) := by decide +kernel
theorem dM_canPass_1 : decode cM_canPass 1 = .ok (.getfield 28, 3) := by decide +kernel
theorem dM_canPass_4 : decode cM_canPass 4 = .ok (.iload_n 2, 1) := by decide +kernel
theorem dM_canPass_5 : decode cM_canPass 5 = .ok (.iaload, 1) := by decide +kernel
theorem dM_canPass_6 : decode cM_canPass 6 = .ok (.ifCond .ne 37, 3) := by decide +kernel
theorem dM_canPass_9 : decode cM_canPass 9 = .ok (.aload_n 0, 1) := by decide +kernel
theorem dM_canPass_10 : decode cM_canPass 10 = .ok (.getfield 34, 3) := by decide +kernel
theorem dM_canPass_13 : decode cM_canPass 13 = .ok (.iload_n 1, 1) := by decide +kernel
theorem dM_canPass_14 : decode cM_canPass 14 = .ok (.iaload, 1) := by decide +kernel
theorem dM_canPass_15 : decode cM_canPass 15 = .ok (.aload_n 0, 1) := by decide +kernel
theorem dM_canPass_16 : decode cM_canPass 16 = .ok (.getfield 16, 3) := by decide +kernel
theorem dM_canPass_19 : decode cM_canPass 19 = .ok (.iload_n 2, 1) := by decide +kernel
theorem dM_canPass_20 : decode cM_canPass 20 = .ok (.iaload, 1) := by decide +kernel
theorem dM_canPass_21 : decode cM_canPass 21 = .ok (.if_icmp .eq 18, 3) := by decide +kernel
theorem dM_canPass_24 : decode cM_canPass 24 = .ok (.aload_n 0, 1) := by decide +kernel
theorem dM_canPass_25 : decode cM_canPass 25 = .ok (.getfield 34, 3) := by decide +kernel
theorem dM_canPass_28 : decode cM_canPass 28 = .ok (.iload_n 1, 1) := by decide +kernel
theorem dM_canPass_29 : decode cM_canPass 29 = .ok (.iaload, 1) := by decide +kernel
theorem dM_canPass_30 : decode cM_canPass 30 = .ok (.aload_n 0, 1) := by decide +kernel
theorem dM_canPass_31 : decode cM_canPass 31 = .ok (.getfield 19, 3) := by decide +kernel
theorem dM_canPass_34 : decode cM_canPass 34 = .ok (.iload_n 2, 1) := by decide +kernel
theorem dM_canPass_35 : decode cM_canPass 35 = .ok (.iaload, 1) := by decide +kernel
theorem dM_canPass_36 : decode cM_canPass 36 = .ok (.if_icmp .ne 7, 3) := by decide +kernel
theorem dM_canPass_39 : decode cM_canPass 39 = .ok (.iconst 1, 1) := by decide +kernel
theorem dM_canPass_40 : decode cM_canPass 40 = .ok (.goto 4, 3) := by decide +kernel
theorem dM_canPass_43 : decode cM_canPass 43 = .ok (.iconst 0, 1) := by decide +kernel
theorem dM_canPass_44 : decode cM_canPass 44 = .ok (.ireturn, 1) := by decide +kernel
theorem dM_clear_0 : decode cM_clear 0 = .ok (.aload_n 0, 1) := by decide +kernel
theorem dM_clear_1 : decode cM_clear 1 = .ok (.getfield 192, 3) := by decide +kernel
theorem dM_clear_4 : decode cM_clear 4 = .ok (.istore_n 1, 1) := by decide +kernel
theorem dM_clear_5 : decode cM_clear 5 = .ok (.aload_n 0, 1) := by decide +kernel
theorem dM_clear_6 : decode cM_clear 6 = .ok (.iconst 0, 1) := by decide +kernel
theorem dM_clear_7 : decode cM_clear 7 = .ok (.putfield 192, 3) := by decide +kernel
theorem dM_clear_10 : decode cM_clear 10 = .ok (.iload_n 1, 1) := by decide +kernel
theorem dM_clear_11 : decode cM_clear 11 = .ok (.ireturn, 1) := by decide +kernel
theorem dM_count_0 : decode cM_count 0 = .ok (.iconst 0, 1) := by decide +kernel
theorem dM_count_1 : decode cM_count 1 = .ok (.istore_n 2, 1) := by decide +kernel
theorem dM_count_2 : decode cM_count 2 = .ok (.iload_n 1, 1) := by decide +kernel
theorem dM_count_3 : decode cM_count 3 = .ok (.tableswitch 125 0 7 #[45, 50, 55, 60, 85, 110, 115, 120], 45) := by decide +kernel
theorem dM_count_48 : decode cM_count 48 = .ok (.aload_n 0, 1) := by decide +kernel
theorem dM_count_49 : decode cM_count 49 = .ok (.getfield 77, 3) := by decide +kernel
theorem dM_count_52 : decode cM_count 52 = .ok (.ireturn, 1) := by decide +kernel
theorem dM_count_53 : decode cM_count 53 = .ok (.aload_n 0, 1) := by decide +kernel
theorem dM_count_54 : decode cM_count 54 = .ok (.getfield 81, 3) := by decide +kernel
theorem dM_count_57 : decode cM_count 57 = .ok (.ireturn, 1) := by decide +kernel
theorem dM_count_58 : decode cM_count 58 = .ok (.aload_n 0, 1) := by decide +kernel
theorem dM_count_59 : decode cM_count 59 = .ok (.getfield 146, 3) := by decide +kernel
theorem dM_count_62 : decode cM_count 62 = .ok (.ireturn, 1) := by decide +kernel
theorem dM_count_63 : decode cM_count 63 = .ok (.iconst 0, 1) := by decide +kernel
theorem dM_count_64 : decode cM_count 64 = .ok (.istore_n 3, 1) := by decide +kernel
theorem dM_count_65 : decode cM_count 65 = .ok (.iload_n 3, 1) := by decide +kernel
theorem dM_count_66 : decode cM_count 66 = .ok (.bipush 6, 2) := by decide +kernel
theorem dM_count_68 : decode cM_count 68 = .ok (.if_icmp .ge 18, 3) := by decide +kernel
theorem dM_count_71 : decode cM_count 71 = .ok (.iload_n 2, 1) := by decide +kernel
theorem dM_count_72 : decode cM_count 72 = .ok (.aload_n 0, 1) := by decide +kernel
theorem dM_count_73 : decode cM_count 73 = .ok (.getfield 7, 3) := by decide +kernel
theorem dM_count_76 : decode cM_count 76 = .ok (.iload_n 3, 1) := by decide +kernel
theorem dM_count_77 : decode cM_count 77 = .ok (.iaload, 1) := by decide +kernel
theorem dM_count_78 : decode cM_count 78 = .ok (.iadd, 1) := by decide +kernel
theorem dM_count_79 : decode cM_count 79 = .ok (.istore_n 2, 1) := by decide +kernel
theorem dM_count_80 : decode cM_count 80 = .ok (.iinc 3 1, 3) := by decide +kernel
theorem dM_count_83 : decode cM_count 83 = .ok (.goto (-18), 3) := by decide +kernel
theorem dM_count_86 : decode cM_count 86 = .ok (.iload_n 2, 1) := by decide +kernel
theorem dM_count_87 : decode cM_count 87 = .ok (.ireturn, 1) := by decide +kernel
theorem dM_count_88 : decode cM_count 88 = .ok (.iconst 0, 1) := by decide +kernel
theorem dM_count_89 : decode cM_count 89 = .ok (.istore_n 3, 1) := by decide +kernel
theorem dM_count_90 : decode cM_count 90 = .ok (.iload_n 3, 1) := by decide +kernel
theorem dM_count_91 : decode cM_count 91 = .ok (.bipush 6, 2) := by decide +kernel
theorem dM_count_93 : decode cM_count 93 = .ok (.if_icmp .ge 18, 3) := by decide +kernel
theorem dM_count_96 : decode cM_count 96 = .ok (.iload_n 2, 1) := by decide +kernel
theorem dM_count_97 : decode cM_count 97 = .ok (.aload_n 0, 1) := by decide +kernel
theorem dM_count_98 : decode cM_count 98 = .ok (.getfield 13, 3) := by decide +kernel
theorem dM_count_101 : decode cM_count 101 = .ok (.iload_n 3, 1) := by decide +kernel
theorem dM_count_102 : decode cM_count 102 = .ok (.iaload, 1) := by decide +kernel
theorem dM_count_103 : decode cM_count 103 = .ok (.iadd, 1) := by decide +kernel
theorem dM_count_104 : decode cM_count 104 = .ok (.istore_n 2, 1) := by decide +kernel
theorem dM_count_105 : decode cM_count 105 = .ok (.iinc 3 1, 3) := by decide +kernel
theorem dM_count_108 : decode cM_count 108 = .ok (.goto (-18), 3) := by decide +kernel
theorem dM_count_111 : decode cM_count 111 = .ok (.iload_n 2, 1) := by decide +kernel
theorem dM_count_112 : decode cM_count 112 = .ok (.ireturn, 1) := by decide +kernel
theorem dM_count_113 : decode cM_count 113 = .ok (.aload_n 0, 1) := by decide +kernel
theorem dM_count_114 : decode cM_count 114 = .ok (.getfield 149, 3) := by decide +kernel
theorem dM_count_117 : decode cM_count 117 = .ok (.ireturn, 1) := by decide +kernel
theorem dM_count_118 : decode cM_count 118 = .ok (.aload_n 0, 1) := by decide +kernel
theorem dM_count_119 : decode cM_count 119 = .ok (.getfield 192, 3) := by decide +kernel
theorem dM_count_122 : decode cM_count 122 = .ok (.ireturn, 1) := by decide +kernel
theorem dM_count_123 : decode cM_count 123 = .ok (.aload_n 0, 1) := by decide +kernel
theorem dM_count_124 : decode cM_count 124 = .ok (.getfield 88, 3) := by decide +kernel
theorem dM_count_127 : decode cM_count 127 = .ok (.ireturn, 1) := by decide +kernel
theorem dM_count_128 : decode cM_count 128 = .ok (.iload_n 1, 1) := by decide +kernel
theorem dM_count_129 : decode cM_count 129 = .ok (.bipush 11, 2) := by decide +kernel
theorem dM_count_131 : decode cM_count 131 = .ok (.bipush 16, 2) := by decide +kernel
theorem dM_count_133 : decode cM_count 133 = .ok (.invokestatic 73, 3) := by decide +kernel
theorem dM_count_136 : decode cM_count 136 = .ok (.ifCond .eq 15, 3) := by decide +kernel
theorem dM_count_139 : decode cM_count 139 = .ok (.aload_n 0, 1) := by decide +kernel
theorem dM_count_140 : decode cM_count 140 = .ok (.getfield 55, 3) := by decide +kernel
theorem dM_count_143 : decode cM_count 143 = .ok (.iload_n 1, 1) := by decide +kernel
theorem dM_count_144 : decode cM_count 144 = .ok (.bipush 10, 2) := by decide +kernel
theorem dM_count_146 : decode cM_count 146 = .ok (.isub, 1) := by decide +kernel
theorem dM_count_147 : decode cM_count 147 = .ok (.iaload, 1) := by decide +kernel
theorem dM_count_148 : decode cM_count 148 = .ok (.goto 5, 3) := by decide +kernel
theorem dM_count_151 : decode cM_count 151 = .ok (.bipush (-9), 2) := by decide +kernel
theorem dM_count_153 : decode cM_count 153 = .ok (.ireturn, 1) := by decide +kernel
theorem dM_ends_0 : decode cM_ends 0 = .ok (.aload_n 0, 1) := by decide +kernel
theorem dM_ends_1 : decode cM_ends 1 = .ok (.invokevirtual 198, 3) := by decide +kernel
theorem dM_ends_4 : decode cM_ends 4 = .ok (.pop, 1) := by decide +kernel
theorem dM_ends_5 : decode cM_ends 5 = .ok (.aload_n 0, 1) := by decide +kernel
theorem dM_ends_6 : decode cM_ends 6 = .ok (.getfield 49, 3) := by decide +kernel
theorem dM_ends_9 : decode cM_ends 9 = .ok (.iconst 0, 1) := by decide +kernel
theorem dM_ends_10 : decode cM_ends 10 = .ok (.iaload, 1) := by decide +kernel
theorem dM_ends_11 : decode cM_ends 11 = .ok (.ireturn, 1) := by decide +kernel
theorem dM_errands_0 : decode cM_errands 0 = .ok (.iload_n 1, 1) := by decide +kernel
theorem dM_errands_1 : decode cM_errands 1 = .ok (.invokestatic 170, 3) := by decide +kernel
theorem dM_errands_4 : decode cM_errands 4 = .ok (.ifCond .eq 13, 3) := by decide +kernel
theorem dM_errands_7 : decode cM_errands 7 = .ok (.iload_n 2, 1) := by decide +kernel
theorem dM_errands_8 : decode cM_errands 8 = .ok (.iconst 0, 1) := by decide +kernel
theorem dM_errands_9 : decode cM_errands 9 = .ok (.bipush 127, 2) := by decide +kernel
theorem dM_errands_11 : decode cM_errands 11 = .ok (.invokestatic 73, 3) := by decide +kernel
theorem dM_errands_14 : decode cM_errands 14 = .ok (.ifCond .ne 9, 3) := by decide +kernel
theorem dM_errands_17 : decode cM_errands 17 = .ok (.aload_n 0, 1) := by decide +kernel
theorem dM_errands_18 : decode cM_errands 18 = .ok (.iconst (-1), 1) := by decide +kernel
theorem dM_errands_19 : decode cM_errands 19 = .ok (.invokevirtual 84, 3) := by decide +kernel
theorem dM_errands_22 : decode cM_errands 22 = .ok (.ireturn, 1) := by decide +kernel
theorem dM_errands_23 : decode cM_errands 23 = .ok (.iconst 0, 1) := by decide +kernel
theorem dM_errands_24 : decode cM_errands 24 = .ok (.istore_n 3, 1) := by decide +kernel
theorem dM_errands_25 : decode cM_errands 25 = .ok (.iload_n 3, 1) := by decide +kernel
theorem dM_errands_26 : decode cM_errands 26 = .ok (.sipush 896, 3) := by decide +kernel
theorem dM_errands_29 : decode cM_errands 29 = .ok (.if_icmp .ge 18, 3) := by decide +kernel
theorem dM_errands_32 : decode cM_errands 32 = .ok (.aload_n 0, 1) := by decide +kernel
theorem dM_errands_33 : decode cM_errands 33 = .ok (.getfield 67, 3) := by decide +kernel
theorem dM_errands_36 : decode cM_errands 36 = .ok (.iload_n 3, 1) := by decide +kernel
theorem dM_errands_37 : decode cM_errands 37 = .ok (.sipush 10000, 3) := by decide +kernel
theorem dM_errands_40 : decode cM_errands 40 = .ok (.iastore, 1) := by decide +kernel
theorem dM_errands_41 : decode cM_errands 41 = .ok (.iinc 3 1, 3) := by decide +kernel
theorem dM_errands_44 : decode cM_errands 44 = .ok (.goto (-19), 3) := by decide +kernel
theorem dM_errands_47 : decode cM_errands 47 = .ok (.aload_n 0, 1) := by decide +kernel
theorem dM_errands_48 : decode cM_errands 48 = .ok (.getfield 67, 3) := by decide +kernel
theorem dM_errands_51 : decode cM_errands 51 = .ok (.bipush 7, 2) := by decide +kernel
theorem dM_errands_53 : decode cM_errands 53 = .ok (.iconst 1, 1) := by decide +kernel
theorem dM_errands_54 : decode cM_errands 54 = .ok (.iload_n 1, 1) := by decide +kernel
theorem dM_errands_55 : decode cM_errands 55 = .ok (.ishl, 1) := by decide +kernel
theorem dM_errands_56 : decode cM_errands 56 = .ok (.imul, 1) := by decide +kernel
theorem dM_errands_57 : decode cM_errands 57 = .ok (.iload_n 1, 1) := by decide +kernel
theorem dM_errands_58 : decode cM_errands 58 = .ok (.iadd, 1) := by decide +kernel
theorem dM_errands_59 : decode cM_errands 59 = .ok (.iconst 0, 1) := by decide +kernel
theorem dM_errands_60 : decode cM_errands 60 = .ok (.iastore, 1) := by decide +kernel
theorem dM_errands_61 : decode cM_errands 61 = .ok (.sipush 10000, 3) := by decide +kernel
theorem dM_errands_64 : decode cM_errands 64 = .ok (.istore_n 3, 1) := by decide +kernel
theorem dM_errands_65 : decode cM_errands 65 = .ok (.iconst 0, 1) := by decide +kernel
theorem dM_errands_66 : decode cM_errands 66 = .ok (.istore 4, 2) := by decide +kernel
theorem dM_errands_68 : decode cM_errands 68 = .ok (.iload 4, 2) := by decide +kernel
theorem dM_errands_70 : decode cM_errands 70 = .ok (.sipush 128, 3) := by decide +kernel
theorem dM_errands_73 : decode cM_errands 73 = .ok (.if_icmp .ge 141, 3) := by decide +kernel
theorem dM_errands_76 : decode cM_errands 76 = .ok (.iconst 0, 1) := by decide +kernel
theorem dM_errands_77 : decode cM_errands 77 = .ok (.istore 5, 2) := by decide +kernel
theorem dM_errands_79 : decode cM_errands 79 = .ok (.iload 5, 2) := by decide +kernel
theorem dM_errands_81 : decode cM_errands 81 = .ok (.bipush 7, 2) := by decide +kernel
theorem dM_errands_83 : decode cM_errands 83 = .ok (.if_icmp .ge 125, 3) := by decide +kernel
theorem dM_errands_86 : decode cM_errands 86 = .ok (.aload_n 0, 1) := by decide +kernel
theorem dM_errands_87 : decode cM_errands 87 = .ok (.getfield 67, 3) := by decide +kernel
theorem dM_errands_90 : decode cM_errands 90 = .ok (.bipush 7, 2) := by decide +kernel
theorem dM_errands_92 : decode cM_errands 92 = .ok (.iload 4, 2) := by decide +kernel
theorem dM_errands_94 : decode cM_errands 94 = .ok (.imul, 1) := by decide +kernel
theorem dM_errands_95 : decode cM_errands 95 = .ok (.iload 5, 2) := by decide +kernel
theorem dM_errands_97 : decode cM_errands 97 = .ok (.iadd, 1) := by decide +kernel
theorem dM_errands_98 : decode cM_errands 98 = .ok (.iaload, 1) := by decide +kernel
theorem dM_errands_99 : decode cM_errands 99 = .ok (.istore 6, 2) := by decide +kernel
theorem dM_errands_101 : decode cM_errands 101 = .ok (.iload 6, 2) := by decide +kernel
theorem dM_errands_103 : decode cM_errands 103 = .ok (.sipush 10000, 3) := by decide +kernel
theorem dM_errands_106 : decode cM_errands 106 = .ok (.if_icmp .lt 6, 3) := by decide +kernel
theorem dM_errands_109 : decode cM_errands 109 = .ok (.goto 93, 3) := by decide +kernel
theorem dM_errands_112 : decode cM_errands 112 = .ok (.iload_n 2, 1) := by decide +kernel
theorem dM_errands_113 : decode cM_errands 113 = .ok (.iload 4, 2) := by decide +kernel
theorem dM_errands_115 : decode cM_errands 115 = .ok (.iconst (-1), 1) := by decide +kernel
theorem dM_errands_116 : decode cM_errands 116 = .ok (.ixor, 1) := by decide +kernel
theorem dM_errands_117 : decode cM_errands 117 = .ok (.iand, 1) := by decide +kernel
theorem dM_errands_118 : decode cM_errands 118 = .ok (.ifCond .ne 10, 3) := by decide +kernel
theorem dM_errands_121 : decode cM_errands 121 = .ok (.iload_n 3, 1) := by decide +kernel
theorem dM_errands_122 : decode cM_errands 122 = .ok (.iload 6, 2) := by decide +kernel
theorem dM_errands_124 : decode cM_errands 124 = .ok (.invokestatic 98, 3) := by decide +kernel
theorem dM_errands_127 : decode cM_errands 127 = .ok (.istore_n 3, 1) := by decide +kernel
theorem dM_errands_128 : decode cM_errands 128 = .ok (.aload_n 0, 1) := by decide +kernel
theorem dM_errands_129 : decode cM_errands 129 = .ok (.iload 5, 2) := by decide +kernel
theorem dM_errands_131 : decode cM_errands 131 = .ok (.invokevirtual 173, 3) := by decide +kernel
theorem dM_errands_134 : decode cM_errands 134 = .ok (.iconst 0, 1) := by decide +kernel
theorem dM_errands_135 : decode cM_errands 135 = .ok (.istore 7, 2) := by decide +kernel
theorem dM_errands_137 : decode cM_errands 137 = .ok (.iload 7, 2) := by decide +kernel
theorem dM_errands_139 : decode cM_errands 139 = .ok (.bipush 7, 2) := by decide +kernel
theorem dM_errands_141 : decode cM_errands 141 = .ok (.if_icmp .ge 61, 3) := by decide +kernel
theorem dM_errands_144 : decode cM_errands 144 = .ok (.bipush 7, 2) := by decide +kernel
theorem dM_errands_146 : decode cM_errands 146 = .ok (.iload 4, 2) := by decide +kernel
theorem dM_errands_148 : decode cM_errands 148 = .ok (.iconst 1, 1) := by decide +kernel
theorem dM_errands_149 : decode cM_errands 149 = .ok (.iload 7, 2) := by decide +kernel
theorem dM_errands_151 : decode cM_errands 151 = .ok (.ishl, 1) := by decide +kernel
theorem dM_errands_152 : decode cM_errands 152 = .ok (.ior, 1) := by decide +kernel
theorem dM_errands_153 : decode cM_errands 153 = .ok (.imul, 1) := by decide +kernel
theorem dM_errands_154 : decode cM_errands 154 = .ok (.iload 7, 2) := by decide +kernel
theorem dM_errands_156 : decode cM_errands 156 = .ok (.iadd, 1) := by decide +kernel
theorem dM_errands_157 : decode cM_errands 157 = .ok (.istore 8, 2) := by decide +kernel
theorem dM_errands_159 : decode cM_errands 159 = .ok (.iload 4, 2) := by decide +kernel
theorem dM_errands_161 : decode cM_errands 161 = .ok (.iload 7, 2) := by decide +kernel
theorem dM_errands_163 : decode cM_errands 163 = .ok (.invokestatic 177, 3) := by decide +kernel
theorem dM_errands_166 : decode cM_errands 166 = .ok (.ifCond .ne 30, 3) := by decide +kernel
theorem dM_errands_169 : decode cM_errands 169 = .ok (.aload_n 0, 1) := by decide +kernel
theorem dM_errands_170 : decode cM_errands 170 = .ok (.getfield 67, 3) := by decide +kernel
theorem dM_errands_173 : decode cM_errands 173 = .ok (.iload 8, 2) := by decide +kernel
theorem dM_errands_175 : decode cM_errands 175 = .ok (.aload_n 0, 1) := by decide +kernel
theorem dM_errands_176 : decode cM_errands 176 = .ok (.getfield 67, 3) := by decide +kernel
theorem dM_errands_179 : decode cM_errands 179 = .ok (.iload 8, 2) := by decide +kernel
theorem dM_errands_181 : decode cM_errands 181 = .ok (.iaload, 1) := by decide +kernel
theorem dM_errands_182 : decode cM_errands 182 = .ok (.iload 6, 2) := by decide +kernel
theorem dM_errands_184 : decode cM_errands 184 = .ok (.aload_n 0, 1) := by decide +kernel
theorem dM_errands_185 : decode cM_errands 185 = .ok (.getfield 64, 3) := by decide +kernel
theorem dM_errands_188 : decode cM_errands 188 = .ok (.iload 7, 2) := by decide +kernel
theorem dM_errands_190 : decode cM_errands 190 = .ok (.iaload, 1) := by decide +kernel
theorem dM_errands_191 : decode cM_errands 191 = .ok (.iadd, 1) := by decide +kernel
theorem dM_errands_192 : decode cM_errands 192 = .ok (.invokestatic 98, 3) := by decide +kernel
theorem dM_errands_195 : decode cM_errands 195 = .ok (.iastore, 1) := by decide +kernel
theorem dM_errands_196 : decode cM_errands 196 = .ok (.iinc 7 1, 3) := by decide +kernel
theorem dM_errands_199 : decode cM_errands 199 = .ok (.goto (-62), 3) := by decide +kernel
theorem dM_errands_202 : decode cM_errands 202 = .ok (.iinc 5 1, 3) := by decide +kernel
theorem dM_errands_205 : decode cM_errands 205 = .ok (.goto (-126), 3) := by decide +kernel
theorem dM_errands_208 : decode cM_errands 208 = .ok (.iinc 4 1, 3) := by decide +kernel
theorem dM_errands_211 : decode cM_errands 211 = .ok (.goto (-143), 3) := by decide +kernel
theorem dM_errands_214 : decode cM_errands 214 = .ok (.iload_n 3, 1) := by decide +kernel
theorem dM_errands_215 : decode cM_errands 215 = .ok (.sipush 10000, 3) := by decide +kernel
theorem dM_errands_218 : decode cM_errands 218 = .ok (.if_icmp .ge 7, 3) := by decide +kernel
theorem dM_errands_221 : decode cM_errands 221 = .ok (.iload_n 3, 1) := by decide +kernel
theorem dM_errands_222 : decode cM_errands 222 = .ok (.goto 5, 3) := by decide +kernel
theorem dM_errands_225 : decode cM_errands 225 = .ok (.bipush (-9), 2) := by decide +kernel
theorem dM_errands_227 : decode cM_errands 227 = .ok (.ireturn, 1) := by decide +kernel
theorem dM_farthest_0 : decode cM_farthest 0 = .ok (.iload_n 1, 1) := by decide +kernel
theorem dM_farthest_1 : decode cM_farthest 1 = .ok (.iconst 0, 1) := by decide +kernel
theorem dM_farthest_2 : decode cM_farthest 2 = .ok (.iconst 1, 1) := by decide +kernel
theorem dM_farthest_3 : decode cM_farthest 3 = .ok (.invokestatic 73, 3) := by decide +kernel
theorem dM_farthest_6 : decode cM_farthest 6 = .ok (.ifCond .ne 10, 3) := by decide +kernel
theorem dM_farthest_9 : decode cM_farthest 9 = .ok (.aload_n 0, 1) := by decide +kernel
theorem dM_farthest_10 : decode cM_farthest 10 = .ok (.bipush (-2), 2) := by decide +kernel
theorem dM_farthest_12 : decode cM_farthest 12 = .ok (.invokevirtual 84, 3) := by decide +kernel
theorem dM_farthest_15 : decode cM_farthest 15 = .ok (.ireturn, 1) := by decide +kernel
theorem dM_farthest_16 : decode cM_farthest 16 = .ok (.aload_n 0, 1) := by decide +kernel
theorem dM_farthest_17 : decode cM_farthest 17 = .ok (.bipush 6, 2) := by decide +kernel
theorem dM_farthest_19 : decode cM_farthest 19 = .ok (.invokevirtual 173, 3) := by decide +kernel
theorem dM_farthest_22 : decode cM_farthest 22 = .ok (.bipush (-9), 2) := by decide +kernel
theorem dM_farthest_24 : decode cM_farthest 24 = .ok (.istore_n 2, 1) := by decide +kernel
theorem dM_farthest_25 : decode cM_farthest 25 = .ok (.iconst 0, 1) := by decide +kernel
theorem dM_farthest_26 : decode cM_farthest 26 = .ok (.istore_n 3, 1) := by decide +kernel
theorem dM_farthest_27 : decode cM_farthest 27 = .ok (.iload_n 3, 1) := by decide +kernel
theorem dM_farthest_28 : decode cM_farthest 28 = .ok (.bipush 6, 2) := by decide +kernel
theorem dM_farthest_30 : decode cM_farthest 30 = .ok (.if_icmp .ge 42, 3) := by decide +kernel
theorem dM_farthest_33 : decode cM_farthest 33 = .ok (.aload_n 0, 1) := by decide +kernel
theorem dM_farthest_34 : decode cM_farthest 34 = .ok (.getfield 64, 3) := by decide +kernel
theorem dM_farthest_37 : decode cM_farthest 37 = .ok (.iload_n 3, 1) := by decide +kernel
theorem dM_farthest_38 : decode cM_farthest 38 = .ok (.iaload, 1) := by decide +kernel
theorem dM_farthest_39 : decode cM_farthest 39 = .ok (.sipush 10000, 3) := by decide +kernel
theorem dM_farthest_42 : decode cM_farthest 42 = .ok (.if_icmp .ge 24, 3) := by decide +kernel
theorem dM_farthest_45 : decode cM_farthest 45 = .ok (.iload_n 2, 1) := by decide +kernel
theorem dM_farthest_46 : decode cM_farthest 46 = .ok (.ifCond .lt 18, 3) := by decide +kernel
theorem dM_farthest_49 : decode cM_farthest 49 = .ok (.aload_n 0, 1) := by decide +kernel
theorem dM_farthest_50 : decode cM_farthest 50 = .ok (.getfield 64, 3) := by decide +kernel
theorem dM_farthest_53 : decode cM_farthest 53 = .ok (.iload_n 3, 1) := by decide +kernel
theorem dM_farthest_54 : decode cM_farthest 54 = .ok (.iaload, 1) := by decide +kernel
theorem dM_farthest_55 : decode cM_farthest 55 = .ok (.aload_n 0, 1) := by decide +kernel
theorem dM_farthest_56 : decode cM_farthest 56 = .ok (.getfield 64, 3) := by decide +kernel
theorem dM_farthest_59 : decode cM_farthest 59 = .ok (.iload_n 2, 1) := by decide +kernel
theorem dM_farthest_60 : decode cM_farthest 60 = .ok (.iaload, 1) := by decide +kernel
theorem dM_farthest_61 : decode cM_farthest 61 = .ok (.if_icmp .le 5, 3) := by decide +kernel
theorem dM_farthest_64 : decode cM_farthest 64 = .ok (.iload_n 3, 1) := by decide +kernel
theorem dM_farthest_65 : decode cM_farthest 65 = .ok (.istore_n 2, 1) := by decide +kernel
theorem dM_farthest_66 : decode cM_farthest 66 = .ok (.iinc 3 1, 3) := by decide +kernel
theorem dM_farthest_69 : decode cM_farthest 69 = .ok (.goto (-42), 3) := by decide +kernel
theorem dM_farthest_72 : decode cM_farthest 72 = .ok (.iload_n 2, 1) := by decide +kernel
theorem dM_farthest_73 : decode cM_farthest 73 = .ok (.ifCond .lt 7, 3) := by decide +kernel
theorem dM_farthest_76 : decode cM_farthest 76 = .ok (.iload_n 1, 1) := by decide +kernel
theorem dM_farthest_77 : decode cM_farthest 77 = .ok (.ifCond .ne 7, 3) := by decide +kernel
theorem dM_farthest_80 : decode cM_farthest 80 = .ok (.iload_n 2, 1) := by decide +kernel
theorem dM_farthest_81 : decode cM_farthest 81 = .ok (.goto 9, 3) := by decide +kernel
theorem dM_farthest_84 : decode cM_farthest 84 = .ok (.aload_n 0, 1) := by decide +kernel
theorem dM_farthest_85 : decode cM_farthest 85 = .ok (.getfield 64, 3) := by decide +kernel
theorem dM_farthest_88 : decode cM_farthest 88 = .ok (.iload_n 2, 1) := by decide +kernel
theorem dM_farthest_89 : decode cM_farthest 89 = .ok (.iaload, 1) := by decide +kernel
theorem dM_farthest_90 : decode cM_farthest 90 = .ok (.ireturn, 1) := by decide +kernel
theorem dM_fitted_0 : decode cM_fitted 0 = .ok (.aload_n 0, 1) := by decide +kernel
theorem dM_fitted_1 : decode cM_fitted 1 = .ok (.getfield 81, 3) := by decide +kernel
theorem dM_fitted_4 : decode cM_fitted 4 = .ok (.aload_n 0, 1) := by decide +kernel
theorem dM_fitted_5 : decode cM_fitted 5 = .ok (.invokevirtual 180, 3) := by decide +kernel
theorem dM_fitted_8 : decode cM_fitted 8 = .ok (.invokestatic 184, 3) := by decide +kernel
theorem dM_fitted_11 : decode cM_fitted 11 = .ok (.isub, 1) := by decide +kernel
theorem dM_fitted_12 : decode cM_fitted 12 = .ok (.ireturn, 1) := by decide +kernel
theorem dM_gasps_0 : decode cM_gasps 0 = .ok (.iload_n 1, 1) := by decide +kernel
theorem dM_gasps_1 : decode cM_gasps 1 = .ok (.ifCond .ge 10, 3) := by decide +kernel
theorem dM_gasps_4 : decode cM_gasps 4 = .ok (.aload_n 0, 1) := by decide +kernel
theorem dM_gasps_5 : decode cM_gasps 5 = .ok (.bipush (-4), 2) := by decide +kernel
theorem dM_gasps_7 : decode cM_gasps 7 = .ok (.invokevirtual 84, 3) := by decide +kernel
theorem dM_gasps_10 : decode cM_gasps 10 = .ok (.ireturn, 1) := by decide +kernel
theorem dM_gasps_11 : decode cM_gasps 11 = .ok (.iload_n 1, 1) := by decide +kernel
theorem dM_gasps_12 : decode cM_gasps 12 = .ok (.bipush 99, 2) := by decide +kernel
theorem dM_gasps_14 : decode cM_gasps 14 = .ok (.if_icmp .le 10, 3) := by decide +kernel
theorem dM_gasps_17 : decode cM_gasps 17 = .ok (.aload_n 0, 1) := by decide +kernel
theorem dM_gasps_18 : decode cM_gasps 18 = .ok (.bipush (-6), 2) := by decide +kernel
theorem dM_gasps_20 : decode cM_gasps 20 = .ok (.invokevirtual 84, 3) := by decide +kernel
theorem dM_gasps_23 : decode cM_gasps 23 = .ok (.ireturn, 1) := by decide +kernel
theorem dM_gasps_24 : decode cM_gasps 24 = .ok (.aload_n 0, 1) := by decide +kernel
theorem dM_gasps_25 : decode cM_gasps 25 = .ok (.aload_n 0, 1) := by decide +kernel
theorem dM_gasps_26 : decode cM_gasps 26 = .ok (.getfield 61, 3) := by decide +kernel
theorem dM_gasps_29 : decode cM_gasps 29 = .ok (.invokevirtual 130, 3) := by decide +kernel
theorem dM_gasps_32 : decode cM_gasps 32 = .ok (.aload_n 0, 1) := by decide +kernel
theorem dM_gasps_33 : decode cM_gasps 33 = .ok (.iload_n 1, 1) := by decide +kernel
theorem dM_gasps_34 : decode cM_gasps 34 = .ok (.invokevirtual 161, 3) := by decide +kernel
theorem dM_gasps_37 : decode cM_gasps 37 = .ok (.istore_n 2, 1) := by decide +kernel
theorem dM_gasps_38 : decode cM_gasps 38 = .ok (.aload_n 0, 1) := by decide +kernel
theorem dM_gasps_39 : decode cM_gasps 39 = .ok (.aload_n 0, 1) := by decide +kernel
theorem dM_gasps_40 : decode cM_gasps 40 = .ok (.getfield 61, 3) := by decide +kernel
theorem dM_gasps_43 : decode cM_gasps 43 = .ok (.invokevirtual 134, 3) := by decide +kernel
theorem dM_gasps_46 : decode cM_gasps 46 = .ok (.iload_n 2, 1) := by decide +kernel
theorem dM_gasps_47 : decode cM_gasps 47 = .ok (.ireturn, 1) := by decide +kernel
theorem dM_gauges_0 : decode cM_gauges 0 = .ok (.iload_n 1, 1) := by decide +kernel
theorem dM_gauges_1 : decode cM_gauges 1 = .ok (.ifCond .ge 10, 3) := by decide +kernel
theorem dM_gauges_4 : decode cM_gauges 4 = .ok (.aload_n 0, 1) := by decide +kernel
theorem dM_gauges_5 : decode cM_gauges 5 = .ok (.bipush (-4), 2) := by decide +kernel
theorem dM_gauges_7 : decode cM_gauges 7 = .ok (.invokevirtual 84, 3) := by decide +kernel
theorem dM_gauges_10 : decode cM_gauges 10 = .ok (.ireturn, 1) := by decide +kernel
theorem dM_gauges_11 : decode cM_gauges 11 = .ok (.iload_n 1, 1) := by decide +kernel
theorem dM_gauges_12 : decode cM_gauges 12 = .ok (.bipush 99, 2) := by decide +kernel
theorem dM_gauges_14 : decode cM_gauges 14 = .ok (.if_icmp .le 10, 3) := by decide +kernel
theorem dM_gauges_17 : decode cM_gauges 17 = .ok (.aload_n 0, 1) := by decide +kernel
theorem dM_gauges_18 : decode cM_gauges 18 = .ok (.bipush (-6), 2) := by decide +kernel
theorem dM_gauges_20 : decode cM_gauges 20 = .ok (.invokevirtual 84, 3) := by decide +kernel
theorem dM_gauges_23 : decode cM_gauges 23 = .ok (.ireturn, 1) := by decide +kernel
theorem dM_gauges_24 : decode cM_gauges 24 = .ok (.iload_n 2, 1) := by decide +kernel
theorem dM_gauges_25 : decode cM_gauges 25 = .ok (.iconst 0, 1) := by decide +kernel
theorem dM_gauges_26 : decode cM_gauges 26 = .ok (.iconst 2, 1) := by decide +kernel
theorem dM_gauges_27 : decode cM_gauges 27 = .ok (.invokestatic 73, 3) := by decide +kernel
theorem dM_gauges_30 : decode cM_gauges 30 = .ok (.ifCond .ne 10, 3) := by decide +kernel
theorem dM_gauges_33 : decode cM_gauges 33 = .ok (.aload_n 0, 1) := by decide +kernel
theorem dM_gauges_34 : decode cM_gauges 34 = .ok (.bipush (-2), 2) := by decide +kernel
theorem dM_gauges_36 : decode cM_gauges 36 = .ok (.invokevirtual 84, 3) := by decide +kernel
theorem dM_gauges_39 : decode cM_gauges 39 = .ok (.ireturn, 1) := by decide +kernel
theorem dM_gauges_40 : decode cM_gauges 40 = .ok (.aload_n 0, 1) := by decide +kernel
theorem dM_gauges_41 : decode cM_gauges 41 = .ok (.getfield 192, 3) := by decide +kernel
theorem dM_gauges_44 : decode cM_gauges 44 = .ok (.bipush 6, 2) := by decide +kernel
theorem dM_gauges_46 : decode cM_gauges 46 = .ok (.if_icmp .eq 10, 3) := by decide +kernel
theorem dM_gauges_49 : decode cM_gauges 49 = .ok (.aload_n 0, 1) := by decide +kernel
theorem dM_gauges_50 : decode cM_gauges 50 = .ok (.bipush (-3), 2) := by decide +kernel
theorem dM_gauges_52 : decode cM_gauges 52 = .ok (.invokevirtual 84, 3) := by decide +kernel
theorem dM_gauges_55 : decode cM_gauges 55 = .ok (.ireturn, 1) := by decide +kernel
theorem dM_gauges_56 : decode cM_gauges 56 = .ok (.iload_n 2, 1) := by decide +kernel
theorem dM_gauges_57 : decode cM_gauges 57 = .ok (.iconst 2, 1) := by decide +kernel
theorem dM_gauges_58 : decode cM_gauges 58 = .ok (.if_icmp .ne 17, 3) := by decide +kernel
theorem dM_gauges_61 : decode cM_gauges 61 = .ok (.aload_n 0, 1) := by decide +kernel
theorem dM_gauges_62 : decode cM_gauges 62 = .ok (.iload_n 1, 1) := by decide +kernel
theorem dM_gauges_63 : decode cM_gauges 63 = .ok (.invokevirtual 195, 3) := by decide +kernel
theorem dM_gauges_66 : decode cM_gauges 66 = .ok (.ifCond .eq 7, 3) := by decide +kernel
theorem dM_gauges_69 : decode cM_gauges 69 = .ok (.iconst 1, 1) := by decide +kernel
theorem dM_gauges_70 : decode cM_gauges 70 = .ok (.goto 4, 3) := by decide +kernel
theorem dM_gauges_73 : decode cM_gauges 73 = .ok (.iconst 0, 1) := by decide +kernel
theorem dM_gauges_74 : decode cM_gauges 74 = .ok (.ireturn, 1) := by decide +kernel
theorem dM_gauges_75 : decode cM_gauges 75 = .ok (.iconst 0, 1) := by decide +kernel
theorem dM_gauges_76 : decode cM_gauges 76 = .ok (.istore_n 3, 1) := by decide +kernel
theorem dM_gauges_77 : decode cM_gauges 77 = .ok (.bipush (-9), 2) := by decide +kernel
theorem dM_gauges_79 : decode cM_gauges 79 = .ok (.istore 4, 2) := by decide +kernel
theorem dM_gauges_81 : decode cM_gauges 81 = .ok (.iconst 0, 1) := by decide +kernel
theorem dM_gauges_82 : decode cM_gauges 82 = .ok (.istore 5, 2) := by decide +kernel
theorem dM_gauges_84 : decode cM_gauges 84 = .ok (.iload 5, 2) := by decide +kernel
theorem dM_gauges_86 : decode cM_gauges 86 = .ok (.bipush 6, 2) := by decide +kernel
theorem dM_gauges_88 : decode cM_gauges 88 = .ok (.if_icmp .ge 97, 3) := by decide +kernel
theorem dM_gauges_91 : decode cM_gauges 91 = .ok (.aload_n 0, 1) := by decide +kernel
theorem dM_gauges_92 : decode cM_gauges 92 = .ok (.getfield 13, 3) := by decide +kernel
theorem dM_gauges_95 : decode cM_gauges 95 = .ok (.iload 5, 2) := by decide +kernel
theorem dM_gauges_97 : decode cM_gauges 97 = .ok (.iaload, 1) := by decide +kernel
theorem dM_gauges_98 : decode cM_gauges 98 = .ok (.istore 6, 2) := by decide +kernel
theorem dM_gauges_100 : decode cM_gauges 100 = .ok (.iconst 0, 1) := by decide +kernel
theorem dM_gauges_101 : decode cM_gauges 101 = .ok (.istore 7, 2) := by decide +kernel
theorem dM_gauges_103 : decode cM_gauges 103 = .ok (.iload 7, 2) := by decide +kernel
theorem dM_gauges_105 : decode cM_gauges 105 = .ok (.bipush 10, 2) := by decide +kernel
theorem dM_gauges_107 : decode cM_gauges 107 = .ok (.if_icmp .ge 72, 3) := by decide +kernel
theorem dM_gauges_110 : decode cM_gauges 110 = .ok (.iload 7, 2) := by decide +kernel
theorem dM_gauges_112 : decode cM_gauges 112 = .ok (.iload 6, 2) := by decide +kernel
theorem dM_gauges_114 : decode cM_gauges 114 = .ok (.if_icmp .ne 6, 3) := by decide +kernel
theorem dM_gauges_117 : decode cM_gauges 117 = .ok (.goto 56, 3) := by decide +kernel
theorem dM_gauges_120 : decode cM_gauges 120 = .ok (.aload_n 0, 1) := by decide +kernel
theorem dM_gauges_121 : decode cM_gauges 121 = .ok (.getfield 13, 3) := by decide +kernel
theorem dM_gauges_124 : decode cM_gauges 124 = .ok (.iload 5, 2) := by decide +kernel
theorem dM_gauges_126 : decode cM_gauges 126 = .ok (.iload 7, 2) := by decide +kernel
theorem dM_gauges_128 : decode cM_gauges 128 = .ok (.iastore, 1) := by decide +kernel
theorem dM_gauges_129 : decode cM_gauges 129 = .ok (.aload_n 0, 1) := by decide +kernel
theorem dM_gauges_130 : decode cM_gauges 130 = .ok (.iload_n 1, 1) := by decide +kernel
theorem dM_gauges_131 : decode cM_gauges 131 = .ok (.invokevirtual 195, 3) := by decide +kernel
theorem dM_gauges_134 : decode cM_gauges 134 = .ok (.istore 8, 2) := by decide +kernel
theorem dM_gauges_136 : decode cM_gauges 136 = .ok (.aload_n 0, 1) := by decide +kernel
theorem dM_gauges_137 : decode cM_gauges 137 = .ok (.getfield 13, 3) := by decide +kernel
theorem dM_gauges_140 : decode cM_gauges 140 = .ok (.iload 5, 2) := by decide +kernel
theorem dM_gauges_142 : decode cM_gauges 142 = .ok (.iload 6, 2) := by decide +kernel
theorem dM_gauges_144 : decode cM_gauges 144 = .ok (.iastore, 1) := by decide +kernel
theorem dM_gauges_145 : decode cM_gauges 145 = .ok (.iload 8, 2) := by decide +kernel
theorem dM_gauges_147 : decode cM_gauges 147 = .ok (.ifCond .ne 6, 3) := by decide +kernel
theorem dM_gauges_150 : decode cM_gauges 150 = .ok (.goto 23, 3) := by decide +kernel
theorem dM_gauges_153 : decode cM_gauges 153 = .ok (.iinc 3 1, 3) := by decide +kernel
theorem dM_gauges_156 : decode cM_gauges 156 = .ok (.iload 4, 2) := by decide +kernel
theorem dM_gauges_158 : decode cM_gauges 158 = .ok (.bipush (-9), 2) := by decide +kernel
theorem dM_gauges_160 : decode cM_gauges 160 = .ok (.if_icmp .ne 13, 3) := by decide +kernel
theorem dM_gauges_163 : decode cM_gauges 163 = .ok (.bipush 10, 2) := by decide +kernel
theorem dM_gauges_165 : decode cM_gauges 165 = .ok (.iload 5, 2) := by decide +kernel
theorem dM_gauges_167 : decode cM_gauges 167 = .ok (.imul, 1) := by decide +kernel
theorem dM_gauges_168 : decode cM_gauges 168 = .ok (.iload 7, 2) := by decide +kernel
theorem dM_gauges_170 : decode cM_gauges 170 = .ok (.iadd, 1) := by decide +kernel
theorem dM_gauges_171 : decode cM_gauges 171 = .ok (.istore 4, 2) := by decide +kernel
theorem dM_gauges_173 : decode cM_gauges 173 = .ok (.iinc 7 1, 3) := by decide +kernel
theorem dM_gauges_176 : decode cM_gauges 176 = .ok (.goto (-73), 3) := by decide +kernel
theorem dM_gauges_179 : decode cM_gauges 179 = .ok (.iinc 5 1, 3) := by decide +kernel
theorem dM_gauges_182 : decode cM_gauges 182 = .ok (.goto (-98), 3) := by decide +kernel
theorem dM_gauges_185 : decode cM_gauges 185 = .ok (.iload_n 2, 1) := by decide +kernel
theorem dM_gauges_186 : decode cM_gauges 186 = .ok (.ifCond .ne 7, 3) := by decide +kernel
theorem dM_gauges_189 : decode cM_gauges 189 = .ok (.iload_n 3, 1) := by decide +kernel
theorem dM_gauges_190 : decode cM_gauges 190 = .ok (.goto 5, 3) := by decide +kernel
theorem dM_gauges_193 : decode cM_gauges 193 = .ok (.iload 4, 2) := by decide +kernel
theorem dM_gauges_195 : decode cM_gauges 195 = .ok (.ireturn, 1) := by decide +kernel
theorem dM_goBy_0 : decode cM_goBy 0 = .ok (.iconst 0, 1) := by decide +kernel
theorem dM_goBy_1 : decode cM_goBy 1 = .ok (.istore_n 2, 1) := by decide +kernel
theorem dM_goBy_2 : decode cM_goBy 2 = .ok (.iconst 0, 1) := by decide +kernel
theorem dM_goBy_3 : decode cM_goBy 3 = .ok (.istore_n 3, 1) := by decide +kernel
theorem dM_goBy_4 : decode cM_goBy 4 = .ok (.iload_n 3, 1) := by decide +kernel
theorem dM_goBy_5 : decode cM_goBy 5 = .ok (.iload_n 1, 1) := by decide +kernel
theorem dM_goBy_6 : decode cM_goBy 6 = .ok (.if_icmp .ge 136, 3) := by decide +kernel
theorem dM_goBy_9 : decode cM_goBy 9 = .ok (.iconst 0, 1) := by decide +kernel
theorem dM_goBy_10 : decode cM_goBy 10 = .ok (.istore 4, 2) := by decide +kernel
theorem dM_goBy_12 : decode cM_goBy 12 = .ok (.iload 4, 2) := by decide +kernel
theorem dM_goBy_14 : decode cM_goBy 14 = .ok (.bipush 6, 2) := by decide +kernel
theorem dM_goBy_16 : decode cM_goBy 16 = .ok (.if_icmp .ge 60, 3) := by decide +kernel
theorem dM_goBy_19 : decode cM_goBy 19 = .ok (.aload_n 0, 1) := by decide +kernel
theorem dM_goBy_20 : decode cM_goBy 20 = .ok (.getfield 7, 3) := by decide +kernel
theorem dM_goBy_23 : decode cM_goBy 23 = .ok (.iload 4, 2) := by decide +kernel
theorem dM_goBy_25 : decode cM_goBy 25 = .ok (.iaload, 1) := by decide +kernel
theorem dM_goBy_26 : decode cM_goBy 26 = .ok (.aload_n 0, 1) := by decide +kernel
theorem dM_goBy_27 : decode cM_goBy 27 = .ok (.getfield 13, 3) := by decide +kernel
theorem dM_goBy_30 : decode cM_goBy 30 = .ok (.iload 4, 2) := by decide +kernel
theorem dM_goBy_32 : decode cM_goBy 32 = .ok (.iaload, 1) := by decide +kernel
theorem dM_goBy_33 : decode cM_goBy 33 = .ok (.isub, 1) := by decide +kernel
theorem dM_goBy_34 : decode cM_goBy 34 = .ok (.aload_n 0, 1) := by decide +kernel
theorem dM_goBy_35 : decode cM_goBy 35 = .ok (.iload 4, 2) := by decide +kernel
theorem dM_goBy_37 : decode cM_goBy 37 = .ok (.invokevirtual 143, 3) := by decide +kernel
theorem dM_goBy_40 : decode cM_goBy 40 = .ok (.isub, 1) := by decide +kernel
theorem dM_goBy_41 : decode cM_goBy 41 = .ok (.istore 5, 2) := by decide +kernel
theorem dM_goBy_43 : decode cM_goBy 43 = .ok (.iload 5, 2) := by decide +kernel
theorem dM_goBy_45 : decode cM_goBy 45 = .ok (.ifCond .ge 12, 3) := by decide +kernel
theorem dM_goBy_48 : decode cM_goBy 48 = .ok (.iload_n 2, 1) := by decide +kernel
theorem dM_goBy_49 : decode cM_goBy 49 = .ok (.aload_n 0, 1) := by decide +kernel
theorem dM_goBy_50 : decode cM_goBy 50 = .ok (.iload 4, 2) := by decide +kernel
theorem dM_goBy_52 : decode cM_goBy 52 = .ok (.invokevirtual 137, 3) := by decide +kernel
theorem dM_goBy_55 : decode cM_goBy 55 = .ok (.iadd, 1) := by decide +kernel
theorem dM_goBy_56 : decode cM_goBy 56 = .ok (.istore_n 2, 1) := by decide +kernel
theorem dM_goBy_57 : decode cM_goBy 57 = .ok (.aload_n 0, 1) := by decide +kernel
theorem dM_goBy_58 : decode cM_goBy 58 = .ok (.getfield 7, 3) := by decide +kernel
theorem dM_goBy_61 : decode cM_goBy 61 = .ok (.iload 4, 2) := by decide +kernel
theorem dM_goBy_63 : decode cM_goBy 63 = .ok (.iconst 0, 1) := by decide +kernel
theorem dM_goBy_64 : decode cM_goBy 64 = .ok (.iload 5, 2) := by decide +kernel
theorem dM_goBy_66 : decode cM_goBy 66 = .ok (.invokestatic 104, 3) := by decide +kernel
theorem dM_goBy_69 : decode cM_goBy 69 = .ok (.iastore, 1) := by decide +kernel
theorem dM_goBy_70 : decode cM_goBy 70 = .ok (.iinc 4 1, 3) := by decide +kernel
theorem dM_goBy_73 : decode cM_goBy 73 = .ok (.goto (-61), 3) := by decide +kernel
theorem dM_goBy_76 : decode cM_goBy 76 = .ok (.iconst 0, 1) := by decide +kernel
theorem dM_goBy_77 : decode cM_goBy 77 = .ok (.istore 4, 2) := by decide +kernel
theorem dM_goBy_79 : decode cM_goBy 79 = .ok (.iload 4, 2) := by decide +kernel
theorem dM_goBy_81 : decode cM_goBy 81 = .ok (.aload_n 0, 1) := by decide +kernel
theorem dM_goBy_82 : decode cM_goBy 82 = .ok (.getfield 81, 3) := by decide +kernel
theorem dM_goBy_85 : decode cM_goBy 85 = .ok (.if_icmp .ge 51, 3) := by decide +kernel
theorem dM_goBy_88 : decode cM_goBy 88 = .ok (.aload_n 0, 1) := by decide +kernel
theorem dM_goBy_89 : decode cM_goBy 89 = .ok (.getfield 34, 3) := by decide +kernel
theorem dM_goBy_92 : decode cM_goBy 92 = .ok (.iload 4, 2) := by decide +kernel
theorem dM_goBy_94 : decode cM_goBy 94 = .ok (.iaload, 1) := by decide +kernel
theorem dM_goBy_95 : decode cM_goBy 95 = .ok (.bipush 6, 2) := by decide +kernel
theorem dM_goBy_97 : decode cM_goBy 97 = .ok (.if_icmp .eq 6, 3) := by decide +kernel
theorem dM_goBy_100 : decode cM_goBy 100 = .ok (.goto 30, 3) := by decide +kernel
theorem dM_goBy_103 : decode cM_goBy 103 = .ok (.aload_n 0, 1) := by decide +kernel
theorem dM_goBy_104 : decode cM_goBy 104 = .ok (.getfield 40, 3) := by decide +kernel
theorem dM_goBy_107 : decode cM_goBy 107 = .ok (.iload 4, 2) := by decide +kernel
theorem dM_goBy_109 : decode cM_goBy 109 = .ok (.iaload, 1) := by decide +kernel
theorem dM_goBy_110 : decode cM_goBy 110 = .ok (.ifCond .ne 9, 3) := by decide +kernel
theorem dM_goBy_113 : decode cM_goBy 113 = .ok (.iinc 2 1, 3) := by decide +kernel
theorem dM_goBy_116 : decode cM_goBy 116 = .ok (.goto 14, 3) := by decide +kernel
theorem dM_goBy_119 : decode cM_goBy 119 = .ok (.aload_n 0, 1) := by decide +kernel
theorem dM_goBy_120 : decode cM_goBy 120 = .ok (.getfield 40, 3) := by decide +kernel
theorem dM_goBy_123 : decode cM_goBy 123 = .ok (.iload 4, 2) := by decide +kernel
theorem dM_goBy_125 : decode cM_goBy 125 = .ok (.dup2, 1) := by decide +kernel
theorem dM_goBy_126 : decode cM_goBy 126 = .ok (.iaload, 1) := by decide +kernel
theorem dM_goBy_127 : decode cM_goBy 127 = .ok (.iconst 1, 1) := by decide +kernel
theorem dM_goBy_128 : decode cM_goBy 128 = .ok (.isub, 1) := by decide +kernel
theorem dM_goBy_129 : decode cM_goBy 129 = .ok (.iastore, 1) := by decide +kernel
theorem dM_goBy_130 : decode cM_goBy 130 = .ok (.iinc 4 1, 3) := by decide +kernel
theorem dM_goBy_133 : decode cM_goBy 133 = .ok (.goto (-54), 3) := by decide +kernel
theorem dM_goBy_136 : decode cM_goBy 136 = .ok (.iinc 3 1, 3) := by decide +kernel
theorem dM_goBy_139 : decode cM_goBy 139 = .ok (.goto (-135), 3) := by decide +kernel
theorem dM_goBy_142 : decode cM_goBy 142 = .ok (.aload_n 0, 1) := by decide +kernel
theorem dM_goBy_143 : decode cM_goBy 143 = .ok (.dup, 1) := by decide +kernel
theorem dM_goBy_144 : decode cM_goBy 144 = .ok (.getfield 146, 3) := by decide +kernel
theorem dM_goBy_147 : decode cM_goBy 147 = .ok (.iload_n 1, 1) := by decide +kernel
theorem dM_goBy_148 : decode cM_goBy 148 = .ok (.iadd, 1) := by decide +kernel
theorem dM_goBy_149 : decode cM_goBy 149 = .ok (.putfield 146, 3) := by decide +kernel
theorem dM_goBy_152 : decode cM_goBy 152 = .ok (.aload_n 0, 1) := by decide +kernel
theorem dM_goBy_153 : decode cM_goBy 153 = .ok (.dup, 1) := by decide +kernel
theorem dM_goBy_154 : decode cM_goBy 154 = .ok (.getfield 149, 3) := by decide +kernel
theorem dM_goBy_157 : decode cM_goBy 157 = .ok (.iload_n 2, 1) := by decide +kernel
theorem dM_goBy_158 : decode cM_goBy 158 = .ok (.iadd, 1) := by decide +kernel
theorem dM_goBy_159 : decode cM_goBy 159 = .ok (.putfield 149, 3) := by decide +kernel
theorem dM_goBy_162 : decode cM_goBy 162 = .ok (.iload_n 2, 1) := by decide +kernel
theorem dM_goBy_163 : decode cM_goBy 163 = .ok (.ireturn, 1) := by decide +kernel
theorem dM_has_0 : decode cM_has 0 = .ok (.iload_n 0, 1) := by decide +kernel
theorem dM_has_1 : decode cM_has 1 = .ok (.iload_n 1, 1) := by decide +kernel
theorem dM_has_2 : decode cM_has 2 = .ok (.ishr, 1) := by decide +kernel
theorem dM_has_3 : decode cM_has 3 = .ok (.iconst 1, 1) := by decide +kernel
theorem dM_has_4 : decode cM_has 4 = .ok (.iand, 1) := by decide +kernel
theorem dM_has_5 : decode cM_has 5 = .ok (.iconst 1, 1) := by decide +kernel
theorem dM_has_6 : decode cM_has 6 = .ok (.if_icmp .ne 7, 3) := by decide +kernel
theorem dM_has_9 : decode cM_has 9 = .ok (.iconst 1, 1) := by decide +kernel
theorem dM_has_10 : decode cM_has 10 = .ok (.goto 4, 3) := by decide +kernel
theorem dM_has_13 : decode cM_has 13 = .ok (.iconst 0, 1) := by decide +kernel
theorem dM_has_14 : decode cM_has 14 = .ok (.ireturn, 1) := by decide +kernel
theorem dM_image_0 : decode cM_image 0 = .ok (.aload_n 0, 1) := by decide +kernel
theorem dM_image_1 : decode cM_image 1 = .ok (.iconst 1, 1) := by decide +kernel
theorem dM_image_2 : decode cM_image 2 = .ok (.putfield 204, 3) := by decide +kernel
theorem dM_image_5 : decode cM_image 5 = .ok (.aload_n 0, 1) := by decide +kernel
theorem dM_image_6 : decode cM_image 6 = .ok (.aload_n 0, 1) := by decide +kernel
theorem dM_image_7 : decode cM_image 7 = .ok (.getfield 58, 3) := by decide +kernel
theorem dM_image_10 : decode cM_image 10 = .ok (.invokevirtual 130, 3) := by decide +kernel
theorem dM_image_13 : decode cM_image 13 = .ok (.aload_n 0, 1) := by decide +kernel
theorem dM_image_14 : decode cM_image 14 = .ok (.getfield 146, 3) := by decide +kernel
theorem dM_image_17 : decode cM_image 17 = .ok (.ireturn, 1) := by decide +kernel
theorem dM_is_0 : decode cM_is 0 = .ok (.aload_n 0, 1) := by decide +kernel
theorem dM_is_1 : decode cM_is 1 = .ok (.getfield 91, 3) := by decide +kernel
theorem dM_is_4 : decode cM_is 4 = .ok (.aload_n 0, 1) := by decide +kernel
theorem dM_is_5 : decode cM_is 5 = .ok (.getfield 88, 3) := by decide +kernel
theorem dM_is_8 : decode cM_is 8 = .ok (.if_icmp .eq 16, 3) := by decide +kernel
theorem dM_is_11 : decode cM_is 11 = .ok (.aload_n 0, 1) := by decide +kernel
theorem dM_is_12 : decode cM_is 12 = .ok (.getfield 46, 3) := by decide +kernel
theorem dM_is_15 : decode cM_is 15 = .ok (.aload_n 0, 1) := by decide +kernel
theorem dM_is_16 : decode cM_is 16 = .ok (.getfield 91, 3) := by decide +kernel
theorem dM_is_19 : decode cM_is 19 = .ok (.iaload, 1) := by decide +kernel
theorem dM_is_20 : decode cM_is 20 = .ok (.iload_n 1, 1) := by decide +kernel
theorem dM_is_21 : decode cM_is 21 = .ok (.if_icmp .eq 5, 3) := by decide +kernel
theorem dM_is_24 : decode cM_is 24 = .ok (.iconst 0, 1) := by decide +kernel
theorem dM_is_25 : decode cM_is 25 = .ok (.ireturn, 1) := by decide +kernel
theorem dM_is_26 : decode cM_is 26 = .ok (.aload_n 0, 1) := by decide +kernel
theorem dM_is_27 : decode cM_is 27 = .ok (.dup, 1) := by decide +kernel
theorem dM_is_28 : decode cM_is 28 = .ok (.getfield 91, 3) := by decide +kernel
theorem dM_is_31 : decode cM_is 31 = .ok (.iconst 1, 1) := by decide +kernel
theorem dM_is_32 : decode cM_is 32 = .ok (.iadd, 1) := by decide +kernel
theorem dM_is_33 : decode cM_is 33 = .ok (.putfield 91, 3) := by decide +kernel
theorem dM_is_36 : decode cM_is 36 = .ok (.iconst 1, 1) := by decide +kernel
theorem dM_is_37 : decode cM_is 37 = .ok (.ireturn, 1) := by decide +kernel
theorem dM_isDigit_0 : decode cM_isDigit 0 = .ok (.aload_n 0, 1) := by decide +kernel
theorem dM_isDigit_1 : decode cM_isDigit 1 = .ok (.getfield 91, 3) := by decide +kernel
theorem dM_isDigit_4 : decode cM_isDigit 4 = .ok (.aload_n 0, 1) := by decide +kernel
theorem dM_isDigit_5 : decode cM_isDigit 5 = .ok (.getfield 88, 3) := by decide +kernel
theorem dM_isDigit_8 : decode cM_isDigit 8 = .ok (.if_icmp .ge 35, 3) := by decide +kernel
theorem dM_isDigit_11 : decode cM_isDigit 11 = .ok (.aload_n 0, 1) := by decide +kernel
theorem dM_isDigit_12 : decode cM_isDigit 12 = .ok (.getfield 46, 3) := by decide +kernel
theorem dM_isDigit_15 : decode cM_isDigit 15 = .ok (.aload_n 0, 1) := by decide +kernel
theorem dM_isDigit_16 : decode cM_isDigit 16 = .ok (.getfield 91, 3) := by decide +kernel
theorem dM_isDigit_19 : decode cM_isDigit 19 = .ok (.iaload, 1) := by decide +kernel
theorem dM_isDigit_20 : decode cM_isDigit 20 = .ok (.bipush 48, 2) := by decide +kernel
theorem dM_isDigit_22 : decode cM_isDigit 22 = .ok (.if_icmp .lt 21, 3) := by decide +kernel
theorem dM_isDigit_25 : decode cM_isDigit 25 = .ok (.aload_n 0, 1) := by decide +kernel
theorem dM_isDigit_26 : decode cM_isDigit 26 = .ok (.getfield 46, 3) := by decide +kernel
theorem dM_isDigit_29 : decode cM_isDigit 29 = .ok (.aload_n 0, 1) := by decide +kernel
theorem dM_isDigit_30 : decode cM_isDigit 30 = .ok (.getfield 91, 3) := by decide +kernel
theorem dM_isDigit_33 : decode cM_isDigit 33 = .ok (.iaload, 1) := by decide +kernel
theorem dM_isDigit_34 : decode cM_isDigit 34 = .ok (.bipush 57, 2) := by decide +kernel
theorem dM_isDigit_36 : decode cM_isDigit 36 = .ok (.if_icmp .gt 7, 3) := by decide +kernel
theorem dM_isDigit_39 : decode cM_isDigit 39 = .ok (.iconst 1, 1) := by decide +kernel
theorem dM_isDigit_40 : decode cM_isDigit 40 = .ok (.goto 4, 3) := by decide +kernel
theorem dM_isDigit_43 : decode cM_isDigit 43 = .ok (.iconst 0, 1) := by decide +kernel
theorem dM_isDigit_44 : decode cM_isDigit 44 = .ok (.ireturn, 1) := by decide +kernel
theorem dM_isLock_0 : decode cM_isLock 0 = .ok (.iload_n 1, 1) := by decide +kernel
theorem dM_isLock_1 : decode cM_isLock 1 = .ok (.iconst 0, 1) := by decide +kernel
theorem dM_isLock_2 : decode cM_isLock 2 = .ok (.aload_n 0, 1) := by decide +kernel
theorem dM_isLock_3 : decode cM_isLock 3 = .ok (.getfield 77, 3) := by decide +kernel
theorem dM_isLock_6 : decode cM_isLock 6 = .ok (.iconst 1, 1) := by decide +kernel
theorem dM_isLock_7 : decode cM_isLock 7 = .ok (.isub, 1) := by decide +kernel
theorem dM_isLock_8 : decode cM_isLock 8 = .ok (.invokestatic 73, 3) := by decide +kernel
theorem dM_isLock_11 : decode cM_isLock 11 = .ok (.ireturn, 1) := by decide +kernel
theorem dM_isOne_0 : decode cM_isOne 0 = .ok (.iload_n 1, 1) := by decide +kernel
theorem dM_isOne_1 : decode cM_isOne 1 = .ok (.iconst 0, 1) := by decide +kernel
theorem dM_isOne_2 : decode cM_isOne 2 = .ok (.aload_n 0, 1) := by decide +kernel
theorem dM_isOne_3 : decode cM_isOne 3 = .ok (.getfield 81, 3) := by decide +kernel
theorem dM_isOne_6 : decode cM_isOne 6 = .ok (.iconst 1, 1) := by decide +kernel
theorem dM_isOne_7 : decode cM_isOne 7 = .ok (.isub, 1) := by decide +kernel
theorem dM_isOne_8 : decode cM_isOne 8 = .ok (.invokestatic 73, 3) := by decide +kernel
theorem dM_isOne_11 : decode cM_isOne 11 = .ok (.ireturn, 1) := by decide +kernel
theorem dM_isPlace_0 : decode cM_isPlace 0 = .ok (.iload_n 0, 1) := by decide +kernel
theorem dM_isPlace_1 : decode cM_isPlace 1 = .ok (.iconst 0, 1) := by decide +kernel
theorem dM_isPlace_2 : decode cM_isPlace 2 = .ok (.bipush 6, 2) := by decide +kernel
theorem dM_isPlace_4 : decode cM_isPlace 4 = .ok (.invokestatic 73, 3) := by decide +kernel
theorem dM_isPlace_7 : decode cM_isPlace 7 = .ok (.ireturn, 1) := by decide +kernel
theorem dM_isRoom_0 : decode cM_isRoom 0 = .ok (.iload_n 0, 1) := by decide +kernel
theorem dM_isRoom_1 : decode cM_isRoom 1 = .ok (.iconst 0, 1) := by decide +kernel
theorem dM_isRoom_2 : decode cM_isRoom 2 = .ok (.iconst 5, 1) := by decide +kernel
theorem dM_isRoom_3 : decode cM_isRoom 3 = .ok (.invokestatic 73, 3) := by decide +kernel
theorem dM_isRoom_6 : decode cM_isRoom 6 = .ok (.ireturn, 1) := by decide +kernel
theorem dM_isSo_0 : decode cM_isSo 0 = .ok (.aload_n 0, 1) := by decide +kernel
theorem dM_isSo_1 : decode cM_isSo 1 = .ok (.aload_n 0, 1) := by decide +kernel
theorem dM_isSo_2 : decode cM_isSo 2 = .ok (.getfield 61, 3) := by decide +kernel
theorem dM_isSo_5 : decode cM_isSo 5 = .ok (.invokevirtual 130, 3) := by decide +kernel
theorem dM_isSo_8 : decode cM_isSo 8 = .ok (.aload_n 0, 1) := by decide +kernel
theorem dM_isSo_9 : decode cM_isSo 9 = .ok (.iload_n 1, 1) := by decide +kernel
theorem dM_isSo_10 : decode cM_isSo 10 = .ok (.invokevirtual 161, 3) := by decide +kernel
theorem dM_isSo_13 : decode cM_isSo 13 = .ok (.pop, 1) := by decide +kernel
theorem dM_isSo_14 : decode cM_isSo 14 = .ok (.iconst 1, 1) := by decide +kernel
theorem dM_isSo_15 : decode cM_isSo 15 = .ok (.istore_n 2, 1) := by decide +kernel
theorem dM_isSo_16 : decode cM_isSo 16 = .ok (.iconst 0, 1) := by decide +kernel
theorem dM_isSo_17 : decode cM_isSo 17 = .ok (.istore_n 3, 1) := by decide +kernel
theorem dM_isSo_18 : decode cM_isSo 18 = .ok (.iload_n 3, 1) := by decide +kernel
theorem dM_isSo_19 : decode cM_isSo 19 = .ok (.bipush 6, 2) := by decide +kernel
theorem dM_isSo_21 : decode cM_isSo 21 = .ok (.if_icmp .ge 26, 3) := by decide +kernel
theorem dM_isSo_24 : decode cM_isSo 24 = .ok (.aload_n 0, 1) := by decide +kernel
theorem dM_isSo_25 : decode cM_isSo 25 = .ok (.getfield 7, 3) := by decide +kernel
theorem dM_isSo_28 : decode cM_isSo 28 = .ok (.iload_n 3, 1) := by decide +kernel
theorem dM_isSo_29 : decode cM_isSo 29 = .ok (.iaload, 1) := by decide +kernel
theorem dM_isSo_30 : decode cM_isSo 30 = .ok (.aload_n 0, 1) := by decide +kernel
theorem dM_isSo_31 : decode cM_isSo 31 = .ok (.getfield 52, 3) := by decide +kernel
theorem dM_isSo_34 : decode cM_isSo 34 = .ok (.iload_n 3, 1) := by decide +kernel
theorem dM_isSo_35 : decode cM_isSo 35 = .ok (.iaload, 1) := by decide +kernel
theorem dM_isSo_36 : decode cM_isSo 36 = .ok (.if_icmp .eq 5, 3) := by decide +kernel
theorem dM_isSo_39 : decode cM_isSo 39 = .ok (.iconst 0, 1) := by decide +kernel
theorem dM_isSo_40 : decode cM_isSo 40 = .ok (.istore_n 2, 1) := by decide +kernel
theorem dM_isSo_41 : decode cM_isSo 41 = .ok (.iinc 3 1, 3) := by decide +kernel
theorem dM_isSo_44 : decode cM_isSo 44 = .ok (.goto (-26), 3) := by decide +kernel
theorem dM_isSo_47 : decode cM_isSo 47 = .ok (.aload_n 0, 1) := by decide +kernel
theorem dM_isSo_48 : decode cM_isSo 48 = .ok (.aload_n 0, 1) := by decide +kernel
theorem dM_isSo_49 : decode cM_isSo 49 = .ok (.getfield 61, 3) := by decide +kernel
theorem dM_isSo_52 : decode cM_isSo 52 = .ok (.invokevirtual 134, 3) := by decide +kernel
theorem dM_isSo_55 : decode cM_isSo 55 = .ok (.iload_n 2, 1) := by decide +kernel
theorem dM_isSo_56 : decode cM_isSo 56 = .ok (.ireturn, 1) := by decide +kernel
theorem dM_judge_0 : decode cM_judge 0 = .ok (.aload_n 0, 1) := by decide +kernel
theorem dM_judge_1 : decode cM_judge 1 = .ok (.invokevirtual 198, 3) := by decide +kernel
theorem dM_judge_4 : decode cM_judge 4 = .ok (.istore_n 1, 1) := by decide +kernel
theorem dM_judge_5 : decode cM_judge 5 = .ok (.iload_n 1, 1) := by decide +kernel
theorem dM_judge_6 : decode cM_judge 6 = .ok (.aload_n 0, 1) := by decide +kernel
theorem dM_judge_7 : decode cM_judge 7 = .ok (.getfield 192, 3) := by decide +kernel
theorem dM_judge_10 : decode cM_judge 10 = .ok (.if_icmp .ge 7, 3) := by decide +kernel
theorem dM_judge_13 : decode cM_judge 13 = .ok (.iload_n 1, 1) := by decide +kernel
theorem dM_judge_14 : decode cM_judge 14 = .ok (.goto 5, 3) := by decide +kernel
theorem dM_judge_17 : decode cM_judge 17 = .ok (.bipush (-9), 2) := by decide +kernel
theorem dM_judge_19 : decode cM_judge 19 = .ok (.ireturn, 1) := by decide +kernel
theorem dM_judged_0 : decode cM_judged 0 = .ok (.aload_n 0, 1) := by decide +kernel
theorem dM_judged_1 : decode cM_judged 1 = .ok (.aload_n 0, 1) := by decide +kernel
theorem dM_judged_2 : decode cM_judged 2 = .ok (.getfield 61, 3) := by decide +kernel
theorem dM_judged_5 : decode cM_judged 5 = .ok (.invokevirtual 130, 3) := by decide +kernel
theorem dM_judged_8 : decode cM_judged 8 = .ok (.aload_n 0, 1) := by decide +kernel
theorem dM_judged_9 : decode cM_judged 9 = .ok (.getfield 49, 3) := by decide +kernel
theorem dM_judged_12 : decode cM_judged 12 = .ok (.iconst 0, 1) := by decide +kernel
theorem dM_judged_13 : decode cM_judged 13 = .ok (.iconst 0, 1) := by decide +kernel
theorem dM_judged_14 : decode cM_judged 14 = .ok (.iastore, 1) := by decide +kernel
theorem dM_judged_15 : decode cM_judged 15 = .ok (.iconst 0, 1) := by decide +kernel
theorem dM_judged_16 : decode cM_judged 16 = .ok (.istore_n 1, 1) := by decide +kernel
theorem dM_judged_17 : decode cM_judged 17 = .ok (.iload_n 1, 1) := by decide +kernel
theorem dM_judged_18 : decode cM_judged 18 = .ok (.aload_n 0, 1) := by decide +kernel
theorem dM_judged_19 : decode cM_judged 19 = .ok (.getfield 192, 3) := by decide +kernel
theorem dM_judged_22 : decode cM_judged 22 = .ok (.if_icmp .ge 97, 3) := by decide +kernel
theorem dM_judged_25 : decode cM_judged 25 = .ok (.aload_n 0, 1) := by decide +kernel
theorem dM_judged_26 : decode cM_judged 26 = .ok (.aload_n 0, 1) := by decide +kernel
theorem dM_judged_27 : decode cM_judged 27 = .ok (.getfield 52, 3) := by decide +kernel
theorem dM_judged_30 : decode cM_judged 30 = .ok (.iload_n 1, 1) := by decide +kernel
theorem dM_judged_31 : decode cM_judged 31 = .ok (.iaload, 1) := by decide +kernel
theorem dM_judged_32 : decode cM_judged 32 = .ok (.bipush 10, 2) := by decide +kernel
theorem dM_judged_34 : decode cM_judged 34 = .ok (.idiv, 1) := by decide +kernel
theorem dM_judged_35 : decode cM_judged 35 = .ok (.invokevirtual 158, 3) := by decide +kernel
theorem dM_judged_38 : decode cM_judged 38 = .ok (.ifCond .eq 81, 3) := by decide +kernel
theorem dM_judged_41 : decode cM_judged 41 = .ok (.aload_n 0, 1) := by decide +kernel
theorem dM_judged_42 : decode cM_judged 42 = .ok (.aload_n 0, 1) := by decide +kernel
theorem dM_judged_43 : decode cM_judged 43 = .ok (.getfield 52, 3) := by decide +kernel
theorem dM_judged_46 : decode cM_judged 46 = .ok (.iload_n 1, 1) := by decide +kernel
theorem dM_judged_47 : decode cM_judged 47 = .ok (.iaload, 1) := by decide +kernel
theorem dM_judged_48 : decode cM_judged 48 = .ok (.bipush 10, 2) := by decide +kernel
theorem dM_judged_50 : decode cM_judged 50 = .ok (.irem, 1) := by decide +kernel
theorem dM_judged_51 : decode cM_judged 51 = .ok (.invokevirtual 155, 3) := by decide +kernel
theorem dM_judged_54 : decode cM_judged 54 = .ok (.ifCond .eq 65, 3) := by decide +kernel
theorem dM_judged_57 : decode cM_judged 57 = .ok (.aload_n 0, 1) := by decide +kernel
theorem dM_judged_58 : decode cM_judged 58 = .ok (.aload_n 0, 1) := by decide +kernel
theorem dM_judged_59 : decode cM_judged 59 = .ok (.getfield 52, 3) := by decide +kernel
theorem dM_judged_62 : decode cM_judged 62 = .ok (.iload_n 1, 1) := by decide +kernel
theorem dM_judged_63 : decode cM_judged 63 = .ok (.iaload, 1) := by decide +kernel
theorem dM_judged_64 : decode cM_judged 64 = .ok (.bipush 10, 2) := by decide +kernel
theorem dM_judged_66 : decode cM_judged 66 = .ok (.idiv, 1) := by decide +kernel
theorem dM_judged_67 : decode cM_judged 67 = .ok (.aload_n 0, 1) := by decide +kernel
theorem dM_judged_68 : decode cM_judged 68 = .ok (.getfield 52, 3) := by decide +kernel
theorem dM_judged_71 : decode cM_judged 71 = .ok (.iload_n 1, 1) := by decide +kernel
theorem dM_judged_72 : decode cM_judged 72 = .ok (.iaload, 1) := by decide +kernel
theorem dM_judged_73 : decode cM_judged 73 = .ok (.bipush 10, 2) := by decide +kernel
theorem dM_judged_75 : decode cM_judged 75 = .ok (.irem, 1) := by decide +kernel
theorem dM_judged_76 : decode cM_judged 76 = .ok (.invokevirtual 164, 3) := by decide +kernel
theorem dM_judged_79 : decode cM_judged 79 = .ok (.ifCond .eq 40, 3) := by decide +kernel
theorem dM_judged_82 : decode cM_judged 82 = .ok (.aload_n 0, 1) := by decide +kernel
theorem dM_judged_83 : decode cM_judged 83 = .ok (.getfield 49, 3) := by decide +kernel
theorem dM_judged_86 : decode cM_judged 86 = .ok (.iconst 0, 1) := by decide +kernel
theorem dM_judged_87 : decode cM_judged 87 = .ok (.dup2, 1) := by decide +kernel
theorem dM_judged_88 : decode cM_judged 88 = .ok (.iaload, 1) := by decide +kernel
theorem dM_judged_89 : decode cM_judged 89 = .ok (.aload_n 0, 1) := by decide +kernel
theorem dM_judged_90 : decode cM_judged 90 = .ok (.aload_n 0, 1) := by decide +kernel
theorem dM_judged_91 : decode cM_judged 91 = .ok (.getfield 52, 3) := by decide +kernel
theorem dM_judged_94 : decode cM_judged 94 = .ok (.iload_n 1, 1) := by decide +kernel
theorem dM_judged_95 : decode cM_judged 95 = .ok (.iaload, 1) := by decide +kernel
theorem dM_judged_96 : decode cM_judged 96 = .ok (.bipush 10, 2) := by decide +kernel
theorem dM_judged_98 : decode cM_judged 98 = .ok (.idiv, 1) := by decide +kernel
theorem dM_judged_99 : decode cM_judged 99 = .ok (.aload_n 0, 1) := by decide +kernel
theorem dM_judged_100 : decode cM_judged 100 = .ok (.getfield 52, 3) := by decide +kernel
theorem dM_judged_103 : decode cM_judged 103 = .ok (.iload_n 1, 1) := by decide +kernel
theorem dM_judged_104 : decode cM_judged 104 = .ok (.iaload, 1) := by decide +kernel
theorem dM_judged_105 : decode cM_judged 105 = .ok (.bipush 10, 2) := by decide +kernel
theorem dM_judged_107 : decode cM_judged 107 = .ok (.irem, 1) := by decide +kernel
theorem dM_judged_108 : decode cM_judged 108 = .ok (.invokevirtual 167, 3) := by decide +kernel
theorem dM_judged_111 : decode cM_judged 111 = .ok (.iadd, 1) := by decide +kernel
theorem dM_judged_112 : decode cM_judged 112 = .ok (.iastore, 1) := by decide +kernel
theorem dM_judged_113 : decode cM_judged 113 = .ok (.iinc 1 1, 3) := by decide +kernel
theorem dM_judged_116 : decode cM_judged 116 = .ok (.goto (-99), 3) := by decide +kernel
theorem dM_judged_119 : decode cM_judged 119 = .ok (.aload_n 0, 1) := by decide +kernel
theorem dM_judged_120 : decode cM_judged 120 = .ok (.aload_n 0, 1) := by decide +kernel
theorem dM_judged_121 : decode cM_judged 121 = .ok (.getfield 61, 3) := by decide +kernel
theorem dM_judged_124 : decode cM_judged 124 = .ok (.invokevirtual 134, 3) := by decide +kernel
theorem dM_judged_127 : decode cM_judged 127 = .ok (.iload_n 1, 1) := by decide +kernel
theorem dM_judged_128 : decode cM_judged 128 = .ok (.ireturn, 1) := by decide +kernel
theorem dM_keep_0 : decode cM_keep 0 = .ok (.iconst 0, 1) := by decide +kernel
theorem dM_keep_1 : decode cM_keep 1 = .ok (.istore_n 2, 1) := by decide +kernel
theorem dM_keep_2 : decode cM_keep 2 = .ok (.iload_n 2, 1) := by decide +kernel
theorem dM_keep_3 : decode cM_keep 3 = .ok (.bipush 6, 2) := by decide +kernel
theorem dM_keep_5 : decode cM_keep 5 = .ok (.if_icmp .ge 42, 3) := by decide +kernel
theorem dM_keep_8 : decode cM_keep 8 = .ok (.aload_n 1, 1) := by decide +kernel
theorem dM_keep_9 : decode cM_keep 9 = .ok (.iload_n 2, 1) := by decide +kernel
theorem dM_keep_10 : decode cM_keep 10 = .ok (.aload_n 0, 1) := by decide +kernel
theorem dM_keep_11 : decode cM_keep 11 = .ok (.getfield 7, 3) := by decide +kernel
theorem dM_keep_14 : decode cM_keep 14 = .ok (.iload_n 2, 1) := by decide +kernel
theorem dM_keep_15 : decode cM_keep 15 = .ok (.iaload, 1) := by decide +kernel
theorem dM_keep_16 : decode cM_keep 16 = .ok (.iastore, 1) := by decide +kernel
theorem dM_keep_17 : decode cM_keep 17 = .ok (.aload_n 1, 1) := by decide +kernel
theorem dM_keep_18 : decode cM_keep 18 = .ok (.bipush 6, 2) := by decide +kernel
theorem dM_keep_20 : decode cM_keep 20 = .ok (.iload_n 2, 1) := by decide +kernel
theorem dM_keep_21 : decode cM_keep 21 = .ok (.iadd, 1) := by decide +kernel
theorem dM_keep_22 : decode cM_keep 22 = .ok (.aload_n 0, 1) := by decide +kernel
theorem dM_keep_23 : decode cM_keep 23 = .ok (.getfield 13, 3) := by decide +kernel
theorem dM_keep_26 : decode cM_keep 26 = .ok (.iload_n 2, 1) := by decide +kernel
theorem dM_keep_27 : decode cM_keep 27 = .ok (.iaload, 1) := by decide +kernel
theorem dM_keep_28 : decode cM_keep 28 = .ok (.iastore, 1) := by decide +kernel
theorem dM_keep_29 : decode cM_keep 29 = .ok (.aload_n 1, 1) := by decide +kernel
theorem dM_keep_30 : decode cM_keep 30 = .ok (.bipush 67, 2) := by decide +kernel
theorem dM_keep_32 : decode cM_keep 32 = .ok (.iload_n 2, 1) := by decide +kernel
theorem dM_keep_33 : decode cM_keep 33 = .ok (.iadd, 1) := by decide +kernel
theorem dM_keep_34 : decode cM_keep 34 = .ok (.aload_n 0, 1) := by decide +kernel
theorem dM_keep_35 : decode cM_keep 35 = .ok (.getfield 43, 3) := by decide +kernel
theorem dM_keep_38 : decode cM_keep 38 = .ok (.iload_n 2, 1) := by decide +kernel
theorem dM_keep_39 : decode cM_keep 39 = .ok (.iaload, 1) := by decide +kernel
theorem dM_keep_40 : decode cM_keep 40 = .ok (.iastore, 1) := by decide +kernel
theorem dM_keep_41 : decode cM_keep 41 = .ok (.iinc 2 1, 3) := by decide +kernel
theorem dM_keep_44 : decode cM_keep 44 = .ok (.goto (-42), 3) := by decide +kernel
theorem dM_keep_47 : decode cM_keep 47 = .ok (.iconst 0, 1) := by decide +kernel
theorem dM_keep_48 : decode cM_keep 48 = .ok (.istore_n 2, 1) := by decide +kernel
theorem dM_keep_49 : decode cM_keep 49 = .ok (.iload_n 2, 1) := by decide +kernel
theorem dM_keep_50 : decode cM_keep 50 = .ok (.bipush 7, 2) := by decide +kernel
theorem dM_keep_52 : decode cM_keep 52 = .ok (.if_icmp .ge 69, 3) := by decide +kernel
theorem dM_keep_55 : decode cM_keep 55 = .ok (.aload_n 1, 1) := by decide +kernel
theorem dM_keep_56 : decode cM_keep 56 = .ok (.bipush 12, 2) := by decide +kernel
theorem dM_keep_58 : decode cM_keep 58 = .ok (.iload_n 2, 1) := by decide +kernel
theorem dM_keep_59 : decode cM_keep 59 = .ok (.iadd, 1) := by decide +kernel
theorem dM_keep_60 : decode cM_keep 60 = .ok (.aload_n 0, 1) := by decide +kernel
theorem dM_keep_61 : decode cM_keep 61 = .ok (.getfield 16, 3) := by decide +kernel
theorem dM_keep_64 : decode cM_keep 64 = .ok (.iload_n 2, 1) := by decide +kernel
theorem dM_keep_65 : decode cM_keep 65 = .ok (.iaload, 1) := by decide +kernel
theorem dM_keep_66 : decode cM_keep 66 = .ok (.iastore, 1) := by decide +kernel
theorem dM_keep_67 : decode cM_keep 67 = .ok (.aload_n 1, 1) := by decide +kernel
theorem dM_keep_68 : decode cM_keep 68 = .ok (.bipush 19, 2) := by decide +kernel
theorem dM_keep_70 : decode cM_keep 70 = .ok (.iload_n 2, 1) := by decide +kernel
theorem dM_keep_71 : decode cM_keep 71 = .ok (.iadd, 1) := by decide +kernel
theorem dM_keep_72 : decode cM_keep 72 = .ok (.aload_n 0, 1) := by decide +kernel
theorem dM_keep_73 : decode cM_keep 73 = .ok (.getfield 19, 3) := by decide +kernel
theorem dM_keep_76 : decode cM_keep 76 = .ok (.iload_n 2, 1) := by decide +kernel
theorem dM_keep_77 : decode cM_keep 77 = .ok (.iaload, 1) := by decide +kernel
theorem dM_keep_78 : decode cM_keep 78 = .ok (.iastore, 1) := by decide +kernel
theorem dM_keep_79 : decode cM_keep 79 = .ok (.aload_n 1, 1) := by decide +kernel
theorem dM_keep_80 : decode cM_keep 80 = .ok (.bipush 26, 2) := by decide +kernel
theorem dM_keep_82 : decode cM_keep 82 = .ok (.iload_n 2, 1) := by decide +kernel
theorem dM_keep_83 : decode cM_keep 83 = .ok (.iadd, 1) := by decide +kernel
theorem dM_keep_84 : decode cM_keep 84 = .ok (.aload_n 0, 1) := by decide +kernel
theorem dM_keep_85 : decode cM_keep 85 = .ok (.getfield 22, 3) := by decide +kernel
theorem dM_keep_88 : decode cM_keep 88 = .ok (.iload_n 2, 1) := by decide +kernel
theorem dM_keep_89 : decode cM_keep 89 = .ok (.iaload, 1) := by decide +kernel
theorem dM_keep_90 : decode cM_keep 90 = .ok (.iastore, 1) := by decide +kernel
theorem dM_keep_91 : decode cM_keep 91 = .ok (.aload_n 1, 1) := by decide +kernel
theorem dM_keep_92 : decode cM_keep 92 = .ok (.bipush 33, 2) := by decide +kernel
theorem dM_keep_94 : decode cM_keep 94 = .ok (.iload_n 2, 1) := by decide +kernel
theorem dM_keep_95 : decode cM_keep 95 = .ok (.iadd, 1) := by decide +kernel
theorem dM_keep_96 : decode cM_keep 96 = .ok (.aload_n 0, 1) := by decide +kernel
theorem dM_keep_97 : decode cM_keep 97 = .ok (.getfield 25, 3) := by decide +kernel
theorem dM_keep_100 : decode cM_keep 100 = .ok (.iload_n 2, 1) := by decide +kernel
theorem dM_keep_101 : decode cM_keep 101 = .ok (.iaload, 1) := by decide +kernel
theorem dM_keep_102 : decode cM_keep 102 = .ok (.iastore, 1) := by decide +kernel
theorem dM_keep_103 : decode cM_keep 103 = .ok (.aload_n 1, 1) := by decide +kernel
theorem dM_keep_104 : decode cM_keep 104 = .ok (.bipush 40, 2) := by decide +kernel
theorem dM_keep_106 : decode cM_keep 106 = .ok (.iload_n 2, 1) := by decide +kernel
theorem dM_keep_107 : decode cM_keep 107 = .ok (.iadd, 1) := by decide +kernel
theorem dM_keep_108 : decode cM_keep 108 = .ok (.aload_n 0, 1) := by decide +kernel
theorem dM_keep_109 : decode cM_keep 109 = .ok (.getfield 28, 3) := by decide +kernel
theorem dM_keep_112 : decode cM_keep 112 = .ok (.iload_n 2, 1) := by decide +kernel
theorem dM_keep_113 : decode cM_keep 113 = .ok (.iaload, 1) := by decide +kernel
theorem dM_keep_114 : decode cM_keep 114 = .ok (.iastore, 1) := by decide +kernel
theorem dM_keep_115 : decode cM_keep 115 = .ok (.iinc 2 1, 3) := by decide +kernel
theorem dM_keep_118 : decode cM_keep 118 = .ok (.goto (-69), 3) := by decide +kernel
theorem dM_keep_121 : decode cM_keep 121 = .ok (.iconst 0, 1) := by decide +kernel
theorem dM_keep_122 : decode cM_keep 122 = .ok (.istore_n 2, 1) := by decide +kernel
theorem dM_keep_123 : decode cM_keep 123 = .ok (.iload_n 2, 1) := by decide +kernel
theorem dM_keep_124 : decode cM_keep 124 = .ok (.iconst 5, 1) := by decide +kernel
theorem dM_keep_125 : decode cM_keep 125 = .ok (.if_icmp .ge 57, 3) := by decide +kernel
theorem dM_keep_128 : decode cM_keep 128 = .ok (.aload_n 1, 1) := by decide +kernel
theorem dM_keep_129 : decode cM_keep 129 = .ok (.bipush 47, 2) := by decide +kernel
theorem dM_keep_131 : decode cM_keep 131 = .ok (.iload_n 2, 1) := by decide +kernel
theorem dM_keep_132 : decode cM_keep 132 = .ok (.iadd, 1) := by decide +kernel
theorem dM_keep_133 : decode cM_keep 133 = .ok (.aload_n 0, 1) := by decide +kernel
theorem dM_keep_134 : decode cM_keep 134 = .ok (.getfield 31, 3) := by decide +kernel
theorem dM_keep_137 : decode cM_keep 137 = .ok (.iload_n 2, 1) := by decide +kernel
theorem dM_keep_138 : decode cM_keep 138 = .ok (.iaload, 1) := by decide +kernel
theorem dM_keep_139 : decode cM_keep 139 = .ok (.iastore, 1) := by decide +kernel
theorem dM_keep_140 : decode cM_keep 140 = .ok (.aload_n 1, 1) := by decide +kernel
theorem dM_keep_141 : decode cM_keep 141 = .ok (.bipush 52, 2) := by decide +kernel
theorem dM_keep_143 : decode cM_keep 143 = .ok (.iload_n 2, 1) := by decide +kernel
theorem dM_keep_144 : decode cM_keep 144 = .ok (.iadd, 1) := by decide +kernel
theorem dM_keep_145 : decode cM_keep 145 = .ok (.aload_n 0, 1) := by decide +kernel
theorem dM_keep_146 : decode cM_keep 146 = .ok (.getfield 34, 3) := by decide +kernel
theorem dM_keep_149 : decode cM_keep 149 = .ok (.iload_n 2, 1) := by decide +kernel
theorem dM_keep_150 : decode cM_keep 150 = .ok (.iaload, 1) := by decide +kernel
theorem dM_keep_151 : decode cM_keep 151 = .ok (.iastore, 1) := by decide +kernel
theorem dM_keep_152 : decode cM_keep 152 = .ok (.aload_n 1, 1) := by decide +kernel
theorem dM_keep_153 : decode cM_keep 153 = .ok (.bipush 57, 2) := by decide +kernel
theorem dM_keep_155 : decode cM_keep 155 = .ok (.iload_n 2, 1) := by decide +kernel
theorem dM_keep_156 : decode cM_keep 156 = .ok (.iadd, 1) := by decide +kernel
theorem dM_keep_157 : decode cM_keep 157 = .ok (.aload_n 0, 1) := by decide +kernel
theorem dM_keep_158 : decode cM_keep 158 = .ok (.getfield 37, 3) := by decide +kernel
theorem dM_keep_161 : decode cM_keep 161 = .ok (.iload_n 2, 1) := by decide +kernel
theorem dM_keep_162 : decode cM_keep 162 = .ok (.iaload, 1) := by decide +kernel
theorem dM_keep_163 : decode cM_keep 163 = .ok (.iastore, 1) := by decide +kernel
theorem dM_keep_164 : decode cM_keep 164 = .ok (.aload_n 1, 1) := by decide +kernel
theorem dM_keep_165 : decode cM_keep 165 = .ok (.bipush 62, 2) := by decide +kernel
theorem dM_keep_167 : decode cM_keep 167 = .ok (.iload_n 2, 1) := by decide +kernel
theorem dM_keep_168 : decode cM_keep 168 = .ok (.iadd, 1) := by decide +kernel
theorem dM_keep_169 : decode cM_keep 169 = .ok (.aload_n 0, 1) := by decide +kernel
theorem dM_keep_170 : decode cM_keep 170 = .ok (.getfield 40, 3) := by decide +kernel
theorem dM_keep_173 : decode cM_keep 173 = .ok (.iload_n 2, 1) := by decide +kernel
theorem dM_keep_174 : decode cM_keep 174 = .ok (.iaload, 1) := by decide +kernel
theorem dM_keep_175 : decode cM_keep 175 = .ok (.iastore, 1) := by decide +kernel
theorem dM_keep_176 : decode cM_keep 176 = .ok (.iinc 2 1, 3) := by decide +kernel
theorem dM_keep_179 : decode cM_keep 179 = .ok (.goto (-56), 3) := by decide +kernel
theorem dM_keep_182 : decode cM_keep 182 = .ok (.aload_n 1, 1) := by decide +kernel
theorem dM_keep_183 : decode cM_keep 183 = .ok (.bipush 73, 2) := by decide +kernel
theorem dM_keep_185 : decode cM_keep 185 = .ok (.aload_n 0, 1) := by decide +kernel
theorem dM_keep_186 : decode cM_keep 186 = .ok (.getfield 77, 3) := by decide +kernel
theorem dM_keep_189 : decode cM_keep 189 = .ok (.iastore, 1) := by decide +kernel
theorem dM_keep_190 : decode cM_keep 190 = .ok (.aload_n 1, 1) := by decide +kernel
theorem dM_keep_191 : decode cM_keep 191 = .ok (.bipush 74, 2) := by decide +kernel
theorem dM_keep_193 : decode cM_keep 193 = .ok (.aload_n 0, 1) := by decide +kernel
theorem dM_keep_194 : decode cM_keep 194 = .ok (.getfield 81, 3) := by decide +kernel
theorem dM_keep_197 : decode cM_keep 197 = .ok (.iastore, 1) := by decide +kernel
theorem dM_keep_198 : decode cM_keep 198 = .ok (.aload_n 1, 1) := by decide +kernel
theorem dM_keep_199 : decode cM_keep 199 = .ok (.bipush 75, 2) := by decide +kernel
theorem dM_keep_201 : decode cM_keep 201 = .ok (.aload_n 0, 1) := by decide +kernel
theorem dM_keep_202 : decode cM_keep 202 = .ok (.getfield 146, 3) := by decide +kernel
theorem dM_keep_205 : decode cM_keep 205 = .ok (.iastore, 1) := by decide +kernel
theorem dM_keep_206 : decode cM_keep 206 = .ok (.aload_n 1, 1) := by decide +kernel
theorem dM_keep_207 : decode cM_keep 207 = .ok (.bipush 76, 2) := by decide +kernel
theorem dM_keep_209 : decode cM_keep 209 = .ok (.aload_n 0, 1) := by decide +kernel
theorem dM_keep_210 : decode cM_keep 210 = .ok (.getfield 149, 3) := by decide +kernel
theorem dM_keep_213 : decode cM_keep 213 = .ok (.iastore, 1) := by decide +kernel
theorem dM_keep_214 : decode cM_keep 214 = .ok (.return_, 1) := by decide +kernel
theorem dM_leak_0 : decode cM_leak 0 = .ok (.iload_n 1, 1) := by decide +kernel
theorem dM_leak_1 : decode cM_leak 1 = .ok (.invokestatic 152, 3) := by decide +kernel
theorem dM_leak_4 : decode cM_leak 4 = .ok (.ifCond .ne 9, 3) := by decide +kernel
theorem dM_leak_7 : decode cM_leak 7 = .ok (.aload_n 0, 1) := by decide +kernel
theorem dM_leak_8 : decode cM_leak 8 = .ok (.iconst (-1), 1) := by decide +kernel
theorem dM_leak_9 : decode cM_leak 9 = .ok (.invokevirtual 84, 3) := by decide +kernel
theorem dM_leak_12 : decode cM_leak 12 = .ok (.ireturn, 1) := by decide +kernel
theorem dM_leak_13 : decode cM_leak 13 = .ok (.iload_n 2, 1) := by decide +kernel
theorem dM_leak_14 : decode cM_leak 14 = .ok (.ifCond .ge 10, 3) := by decide +kernel
theorem dM_leak_17 : decode cM_leak 17 = .ok (.aload_n 0, 1) := by decide +kernel
theorem dM_leak_18 : decode cM_leak 18 = .ok (.bipush (-4), 2) := by decide +kernel
theorem dM_leak_20 : decode cM_leak 20 = .ok (.invokevirtual 84, 3) := by decide +kernel
theorem dM_leak_23 : decode cM_leak 23 = .ok (.ireturn, 1) := by decide +kernel
theorem dM_leak_24 : decode cM_leak 24 = .ok (.iload_n 2, 1) := by decide +kernel
theorem dM_leak_25 : decode cM_leak 25 = .ok (.bipush 9, 2) := by decide +kernel
theorem dM_leak_27 : decode cM_leak 27 = .ok (.if_icmp .le 10, 3) := by decide +kernel
theorem dM_leak_30 : decode cM_leak 30 = .ok (.aload_n 0, 1) := by decide +kernel
theorem dM_leak_31 : decode cM_leak 31 = .ok (.bipush (-6), 2) := by decide +kernel
theorem dM_leak_33 : decode cM_leak 33 = .ok (.invokevirtual 84, 3) := by decide +kernel
theorem dM_leak_36 : decode cM_leak 36 = .ok (.ireturn, 1) := by decide +kernel
theorem dM_leak_37 : decode cM_leak 37 = .ok (.aload_n 0, 1) := by decide +kernel
theorem dM_leak_38 : decode cM_leak 38 = .ok (.getfield 13, 3) := by decide +kernel
theorem dM_leak_41 : decode cM_leak 41 = .ok (.iload_n 1, 1) := by decide +kernel
theorem dM_leak_42 : decode cM_leak 42 = .ok (.iaload, 1) := by decide +kernel
theorem dM_leak_43 : decode cM_leak 43 = .ok (.istore_n 3, 1) := by decide +kernel
theorem dM_leak_44 : decode cM_leak 44 = .ok (.aload_n 0, 1) := by decide +kernel
theorem dM_leak_45 : decode cM_leak 45 = .ok (.getfield 13, 3) := by decide +kernel
theorem dM_leak_48 : decode cM_leak 48 = .ok (.iload_n 1, 1) := by decide +kernel
theorem dM_leak_49 : decode cM_leak 49 = .ok (.iload_n 2, 1) := by decide +kernel
theorem dM_leak_50 : decode cM_leak 50 = .ok (.iastore, 1) := by decide +kernel
theorem dM_leak_51 : decode cM_leak 51 = .ok (.iload_n 3, 1) := by decide +kernel
theorem dM_leak_52 : decode cM_leak 52 = .ok (.ireturn, 1) := by decide +kernel
theorem dM_letter_0 : decode cM_letter 0 = .ok (.iload_n 1, 1) := by decide +kernel
theorem dM_letter_1 : decode cM_letter 1 = .ok (.ifCond .ge 10, 3) := by decide +kernel
theorem dM_letter_4 : decode cM_letter 4 = .ok (.aload_n 0, 1) := by decide +kernel
theorem dM_letter_5 : decode cM_letter 5 = .ok (.bipush (-4), 2) := by decide +kernel
theorem dM_letter_7 : decode cM_letter 7 = .ok (.invokevirtual 84, 3) := by decide +kernel
theorem dM_letter_10 : decode cM_letter 10 = .ok (.ireturn, 1) := by decide +kernel
theorem dM_letter_11 : decode cM_letter 11 = .ok (.iload_n 1, 1) := by decide +kernel
theorem dM_letter_12 : decode cM_letter 12 = .ok (.sipush 255, 3) := by decide +kernel
theorem dM_letter_15 : decode cM_letter 15 = .ok (.if_icmp .gt 12, 3) := by decide +kernel
theorem dM_letter_18 : decode cM_letter 18 = .ok (.aload_n 0, 1) := by decide +kernel
theorem dM_letter_19 : decode cM_letter 19 = .ok (.getfield 88, 3) := by decide +kernel
theorem dM_letter_22 : decode cM_letter 22 = .ok (.bipush 96, 2) := by decide +kernel
theorem dM_letter_24 : decode cM_letter 24 = .ok (.if_icmp .ne 10, 3) := by decide +kernel
theorem dM_letter_27 : decode cM_letter 27 = .ok (.aload_n 0, 1) := by decide +kernel
theorem dM_letter_28 : decode cM_letter 28 = .ok (.bipush (-6), 2) := by decide +kernel
theorem dM_letter_30 : decode cM_letter 30 = .ok (.invokevirtual 84, 3) := by decide +kernel
theorem dM_letter_33 : decode cM_letter 33 = .ok (.ireturn, 1) := by decide +kernel
theorem dM_letter_34 : decode cM_letter 34 = .ok (.aload_n 0, 1) := by decide +kernel
theorem dM_letter_35 : decode cM_letter 35 = .ok (.getfield 46, 3) := by decide +kernel
theorem dM_letter_38 : decode cM_letter 38 = .ok (.aload_n 0, 1) := by decide +kernel
theorem dM_letter_39 : decode cM_letter 39 = .ok (.dup, 1) := by decide +kernel
theorem dM_letter_40 : decode cM_letter 40 = .ok (.getfield 88, 3) := by decide +kernel
theorem dM_letter_43 : decode cM_letter 43 = .ok (.dup_x1, 1) := by decide +kernel
theorem dM_letter_44 : decode cM_letter 44 = .ok (.iconst 1, 1) := by decide +kernel
theorem dM_letter_45 : decode cM_letter 45 = .ok (.iadd, 1) := by decide +kernel
theorem dM_letter_46 : decode cM_letter 46 = .ok (.putfield 88, 3) := by decide +kernel
theorem dM_letter_49 : decode cM_letter 49 = .ok (.iload_n 1, 1) := by decide +kernel
theorem dM_letter_50 : decode cM_letter 50 = .ok (.iastore, 1) := by decide +kernel
theorem dM_letter_51 : decode cM_letter 51 = .ok (.aload_n 0, 1) := by decide +kernel
theorem dM_letter_52 : decode cM_letter 52 = .ok (.getfield 88, 3) := by decide +kernel
theorem dM_letter_55 : decode cM_letter 55 = .ok (.ireturn, 1) := by decide +kernel
theorem dM_lock_0 : decode cM_lock 0 = .ok (.aload_n 0, 1) := by decide +kernel
theorem dM_lock_1 : decode cM_lock 1 = .ok (.iload_n 1, 1) := by decide +kernel
theorem dM_lock_2 : decode cM_lock 2 = .ok (.invokevirtual 155, 3) := by decide +kernel
theorem dM_lock_5 : decode cM_lock 5 = .ok (.ifCond .ne 9, 3) := by decide +kernel
theorem dM_lock_8 : decode cM_lock 8 = .ok (.aload_n 0, 1) := by decide +kernel
theorem dM_lock_9 : decode cM_lock 9 = .ok (.iconst (-1), 1) := by decide +kernel
theorem dM_lock_10 : decode cM_lock 10 = .ok (.invokevirtual 84, 3) := by decide +kernel
theorem dM_lock_13 : decode cM_lock 13 = .ok (.ireturn, 1) := by decide +kernel
theorem dM_lock_14 : decode cM_lock 14 = .ok (.iload_n 2, 1) := by decide +kernel
theorem dM_lock_15 : decode cM_lock 15 = .ok (.tableswitch 68 0 4 #[33, 40, 47, 54, 61], 33) := by decide +kernel
theorem dM_lock_48 : decode cM_lock 48 = .ok (.aload_n 0, 1) := by decide +kernel
theorem dM_lock_49 : decode cM_lock 49 = .ok (.getfield 16, 3) := by decide +kernel
theorem dM_lock_52 : decode cM_lock 52 = .ok (.iload_n 1, 1) := by decide +kernel
theorem dM_lock_53 : decode cM_lock 53 = .ok (.iaload, 1) := by decide +kernel
theorem dM_lock_54 : decode cM_lock 54 = .ok (.ireturn, 1) := by decide +kernel
theorem dM_lock_55 : decode cM_lock 55 = .ok (.aload_n 0, 1) := by decide +kernel
theorem dM_lock_56 : decode cM_lock 56 = .ok (.getfield 19, 3) := by decide +kernel
theorem dM_lock_59 : decode cM_lock 59 = .ok (.iload_n 1, 1) := by decide +kernel
theorem dM_lock_60 : decode cM_lock 60 = .ok (.iaload, 1) := by decide +kernel
theorem dM_lock_61 : decode cM_lock 61 = .ok (.ireturn, 1) := by decide +kernel
theorem dM_lock_62 : decode cM_lock 62 = .ok (.aload_n 0, 1) := by decide +kernel
theorem dM_lock_63 : decode cM_lock 63 = .ok (.getfield 22, 3) := by decide +kernel
theorem dM_lock_66 : decode cM_lock 66 = .ok (.iload_n 1, 1) := by decide +kernel
theorem dM_lock_67 : decode cM_lock 67 = .ok (.iaload, 1) := by decide +kernel
theorem dM_lock_68 : decode cM_lock 68 = .ok (.ireturn, 1) := by decide +kernel
theorem dM_lock_69 : decode cM_lock 69 = .ok (.aload_n 0, 1) := by decide +kernel
theorem dM_lock_70 : decode cM_lock 70 = .ok (.getfield 25, 3) := by decide +kernel
theorem dM_lock_73 : decode cM_lock 73 = .ok (.iload_n 1, 1) := by decide +kernel
theorem dM_lock_74 : decode cM_lock 74 = .ok (.iaload, 1) := by decide +kernel
theorem dM_lock_75 : decode cM_lock 75 = .ok (.ireturn, 1) := by decide +kernel
theorem dM_lock_76 : decode cM_lock 76 = .ok (.aload_n 0, 1) := by decide +kernel
theorem dM_lock_77 : decode cM_lock 77 = .ok (.getfield 28, 3) := by decide +kernel
theorem dM_lock_80 : decode cM_lock 80 = .ok (.iload_n 1, 1) := by decide +kernel
theorem dM_lock_81 : decode cM_lock 81 = .ok (.iaload, 1) := by decide +kernel
theorem dM_lock_82 : decode cM_lock 82 = .ok (.ireturn, 1) := by decide +kernel
theorem dM_lock_83 : decode cM_lock 83 = .ok (.aload_n 0, 1) := by decide +kernel
theorem dM_lock_84 : decode cM_lock 84 = .ok (.bipush (-2), 2) := by decide +kernel
theorem dM_lock_86 : decode cM_lock 86 = .ok (.invokevirtual 84, 3) := by decide +kernel
theorem dM_lock_89 : decode cM_lock 89 = .ok (.ireturn, 1) := by decide +kernel
theorem dM_minutes_0 : decode cM_minutes 0 = .ok (.iload_n 1, 1) := by decide +kernel
theorem dM_minutes_1 : decode cM_minutes 1 = .ok (.iconst 1, 1) := by decide +kernel
theorem dM_minutes_2 : decode cM_minutes 2 = .ok (.if_icmp .ge 10, 3) := by decide +kernel
theorem dM_minutes_5 : decode cM_minutes 5 = .ok (.aload_n 0, 1) := by decide +kernel
theorem dM_minutes_6 : decode cM_minutes 6 = .ok (.bipush (-4), 2) := by decide +kernel
theorem dM_minutes_8 : decode cM_minutes 8 = .ok (.invokevirtual 84, 3) := by decide +kernel
theorem dM_minutes_11 : decode cM_minutes 11 = .ok (.ireturn, 1) := by decide +kernel
theorem dM_minutes_12 : decode cM_minutes 12 = .ok (.iload_n 1, 1) := by decide +kernel
theorem dM_minutes_13 : decode cM_minutes 13 = .ok (.bipush 99, 2) := by decide +kernel
theorem dM_minutes_15 : decode cM_minutes 15 = .ok (.if_icmp .gt 15, 3) := by decide +kernel
theorem dM_minutes_18 : decode cM_minutes 18 = .ok (.aload_n 0, 1) := by decide +kernel
theorem dM_minutes_19 : decode cM_minutes 19 = .ok (.getfield 146, 3) := by decide +kernel
theorem dM_minutes_22 : decode cM_minutes 22 = .ok (.iload_n 1, 1) := by decide +kernel
theorem dM_minutes_23 : decode cM_minutes 23 = .ok (.iadd, 1) := by decide +kernel
theorem dM_minutes_24 : decode cM_minutes 24 = .ok (.sipush 999, 3) := by decide +kernel
theorem dM_minutes_27 : decode cM_minutes 27 = .ok (.if_icmp .le 12, 3) := by decide +kernel
theorem dM_minutes_30 : decode cM_minutes 30 = .ok (.aload_n 0, 1) := by decide +kernel
theorem dM_minutes_31 : decode cM_minutes 31 = .ok (.bipush (-6), 2) := by decide +kernel
theorem dM_minutes_33 : decode cM_minutes 33 = .ok (.invokevirtual 84, 3) := by decide +kernel
theorem dM_minutes_36 : decode cM_minutes 36 = .ok (.goto 8, 3) := by decide +kernel
theorem dM_minutes_39 : decode cM_minutes 39 = .ok (.aload_n 0, 1) := by decide +kernel
theorem dM_minutes_40 : decode cM_minutes 40 = .ok (.iload_n 1, 1) := by decide +kernel
theorem dM_minutes_41 : decode cM_minutes 41 = .ok (.invokevirtual 161, 3) := by decide +kernel
theorem dM_minutes_44 : decode cM_minutes 44 = .ok (.ireturn, 1) := by decide +kernel
theorem dM_more_0 : decode cM_more 0 = .ok (.iload_n 1, 1) := by decide +kernel
theorem dM_more_1 : decode cM_more 1 = .ok (.iconst 0, 1) := by decide +kernel
theorem dM_more_2 : decode cM_more 2 = .ok (.iconst 1, 1) := by decide +kernel
theorem dM_more_3 : decode cM_more 3 = .ok (.invokestatic 73, 3) := by decide +kernel
theorem dM_more_6 : decode cM_more 6 = .ok (.ifCond .ne 10, 3) := by decide +kernel
theorem dM_more_9 : decode cM_more 9 = .ok (.aload_n 0, 1) := by decide +kernel
theorem dM_more_10 : decode cM_more 10 = .ok (.bipush (-2), 2) := by decide +kernel
theorem dM_more_12 : decode cM_more 12 = .ok (.invokevirtual 84, 3) := by decide +kernel
theorem dM_more_15 : decode cM_more 15 = .ok (.ireturn, 1) := by decide +kernel
theorem dM_more_16 : decode cM_more 16 = .ok (.bipush (-9), 2) := by decide +kernel
theorem dM_more_18 : decode cM_more 18 = .ok (.istore_n 2, 1) := by decide +kernel
theorem dM_more_19 : decode cM_more 19 = .ok (.sipush 10000, 3) := by decide +kernel
theorem dM_more_22 : decode cM_more 22 = .ok (.istore_n 3, 1) := by decide +kernel
theorem dM_more_23 : decode cM_more 23 = .ok (.iconst 0, 1) := by decide +kernel
theorem dM_more_24 : decode cM_more 24 = .ok (.istore 4, 2) := by decide +kernel
theorem dM_more_26 : decode cM_more 26 = .ok (.iload 4, 2) := by decide +kernel
theorem dM_more_28 : decode cM_more 28 = .ok (.bipush 7, 2) := by decide +kernel
theorem dM_more_30 : decode cM_more 30 = .ok (.if_icmp .ge 108, 3) := by decide +kernel
theorem dM_more_33 : decode cM_more 33 = .ok (.iload 4, 2) := by decide +kernel
theorem dM_more_35 : decode cM_more 35 = .ok (.iconst 1, 1) := by decide +kernel
theorem dM_more_36 : decode cM_more 36 = .ok (.iadd, 1) := by decide +kernel
theorem dM_more_37 : decode cM_more 37 = .ok (.istore 5, 2) := by decide +kernel
theorem dM_more_39 : decode cM_more 39 = .ok (.iload 5, 2) := by decide +kernel
theorem dM_more_41 : decode cM_more 41 = .ok (.bipush 7, 2) := by decide +kernel
theorem dM_more_43 : decode cM_more 43 = .ok (.if_icmp .ge 89, 3) := by decide +kernel
theorem dM_more_46 : decode cM_more 46 = .ok (.aload_n 0, 1) := by decide +kernel
theorem dM_more_47 : decode cM_more 47 = .ok (.iload 4, 2) := by decide +kernel
theorem dM_more_49 : decode cM_more 49 = .ok (.iload 5, 2) := by decide +kernel
theorem dM_more_51 : decode cM_more 51 = .ok (.iconst 0, 1) := by decide +kernel
theorem dM_more_52 : decode cM_more 52 = .ok (.iconst 1, 1) := by decide +kernel
theorem dM_more_53 : decode cM_more 53 = .ok (.invokevirtual 115, 3) := by decide +kernel
theorem dM_more_56 : decode cM_more 56 = .ok (.aload_n 0, 1) := by decide +kernel
theorem dM_more_57 : decode cM_more 57 = .ok (.bipush 6, 2) := by decide +kernel
theorem dM_more_59 : decode cM_more 59 = .ok (.invokevirtual 173, 3) := by decide +kernel
theorem dM_more_62 : decode cM_more 62 = .ok (.aload_n 0, 1) := by decide +kernel
theorem dM_more_63 : decode cM_more 63 = .ok (.dup, 1) := by decide +kernel
theorem dM_more_64 : decode cM_more 64 = .ok (.getfield 77, 3) := by decide +kernel
theorem dM_more_67 : decode cM_more 67 = .ok (.iconst 1, 1) := by decide +kernel
theorem dM_more_68 : decode cM_more 68 = .ok (.isub, 1) := by decide +kernel
theorem dM_more_69 : decode cM_more 69 = .ok (.putfield 77, 3) := by decide +kernel
theorem dM_more_72 : decode cM_more 72 = .ok (.iconst 0, 1) := by decide +kernel
theorem dM_more_73 : decode cM_more 73 = .ok (.istore 6, 2) := by decide +kernel
theorem dM_more_75 : decode cM_more 75 = .ok (.iconst 0, 1) := by decide +kernel
theorem dM_more_76 : decode cM_more 76 = .ok (.istore 7, 2) := by decide +kernel
theorem dM_more_78 : decode cM_more 78 = .ok (.iload 7, 2) := by decide +kernel
theorem dM_more_80 : decode cM_more 80 = .ok (.bipush 6, 2) := by decide +kernel
theorem dM_more_82 : decode cM_more 82 = .ok (.if_icmp .ge 23, 3) := by decide +kernel
theorem dM_more_85 : decode cM_more 85 = .ok (.iload 6, 2) := by decide +kernel
theorem dM_more_87 : decode cM_more 87 = .ok (.aload_n 0, 1) := by decide +kernel
theorem dM_more_88 : decode cM_more 88 = .ok (.getfield 64, 3) := by decide +kernel
theorem dM_more_91 : decode cM_more 91 = .ok (.iload 7, 2) := by decide +kernel
theorem dM_more_93 : decode cM_more 93 = .ok (.iaload, 1) := by decide +kernel
theorem dM_more_94 : decode cM_more 94 = .ok (.invokestatic 104, 3) := by decide +kernel
theorem dM_more_97 : decode cM_more 97 = .ok (.istore 6, 2) := by decide +kernel
theorem dM_more_99 : decode cM_more 99 = .ok (.iinc 7 1, 3) := by decide +kernel
theorem dM_more_102 : decode cM_more 102 = .ok (.goto (-24), 3) := by decide +kernel
theorem dM_more_105 : decode cM_more 105 = .ok (.iload 6, 2) := by decide +kernel
theorem dM_more_107 : decode cM_more 107 = .ok (.iload_n 3, 1) := by decide +kernel
theorem dM_more_108 : decode cM_more 108 = .ok (.if_icmp .lt 6, 3) := by decide +kernel
theorem dM_more_111 : decode cM_more 111 = .ok (.goto 15, 3) := by decide +kernel
theorem dM_more_114 : decode cM_more 114 = .ok (.iload 6, 2) := by decide +kernel
theorem dM_more_116 : decode cM_more 116 = .ok (.istore_n 3, 1) := by decide +kernel
theorem dM_more_117 : decode cM_more 117 = .ok (.bipush 10, 2) := by decide +kernel
theorem dM_more_119 : decode cM_more 119 = .ok (.iload 4, 2) := by decide +kernel
theorem dM_more_121 : decode cM_more 121 = .ok (.imul, 1) := by decide +kernel
theorem dM_more_122 : decode cM_more 122 = .ok (.iload 5, 2) := by decide +kernel
theorem dM_more_124 : decode cM_more 124 = .ok (.iadd, 1) := by decide +kernel
theorem dM_more_125 : decode cM_more 125 = .ok (.istore_n 2, 1) := by decide +kernel
theorem dM_more_126 : decode cM_more 126 = .ok (.iinc 5 1, 3) := by decide +kernel
theorem dM_more_129 : decode cM_more 129 = .ok (.goto (-90), 3) := by decide +kernel
theorem dM_more_132 : decode cM_more 132 = .ok (.iinc 4 1, 3) := by decide +kernel
theorem dM_more_135 : decode cM_more 135 = .ok (.goto (-109), 3) := by decide +kernel
theorem dM_more_138 : decode cM_more 138 = .ok (.iload_n 2, 1) := by decide +kernel
theorem dM_more_139 : decode cM_more 139 = .ok (.ifCond .lt 7, 3) := by decide +kernel
theorem dM_more_142 : decode cM_more 142 = .ok (.iload_n 1, 1) := by decide +kernel
theorem dM_more_143 : decode cM_more 143 = .ok (.ifCond .ne 7, 3) := by decide +kernel
theorem dM_more_146 : decode cM_more 146 = .ok (.iload_n 2, 1) := by decide +kernel
theorem dM_more_147 : decode cM_more 147 = .ok (.goto 4, 3) := by decide +kernel
theorem dM_more_150 : decode cM_more 150 = .ok (.iload_n 3, 1) := by decide +kernel
theorem dM_more_151 : decode cM_more 151 = .ok (.ireturn, 1) := by decide +kernel
theorem dM_newLock_0 : decode cM_newLock 0 = .ok (.aload_n 0, 1) := by decide +kernel
theorem dM_newLock_1 : decode cM_newLock 1 = .ok (.getfield 16, 3) := by decide +kernel
theorem dM_newLock_4 : decode cM_newLock 4 = .ok (.aload_n 0, 1) := by decide +kernel
theorem dM_newLock_5 : decode cM_newLock 5 = .ok (.getfield 77, 3) := by decide +kernel
theorem dM_newLock_8 : decode cM_newLock 8 = .ok (.iload_n 1, 1) := by decide +kernel
theorem dM_newLock_9 : decode cM_newLock 9 = .ok (.iload_n 2, 1) := by decide +kernel
theorem dM_newLock_10 : decode cM_newLock 10 = .ok (.invokestatic 98, 3) := by decide +kernel
theorem dM_newLock_13 : decode cM_newLock 13 = .ok (.iastore, 1) := by decide +kernel
theorem dM_newLock_14 : decode cM_newLock 14 = .ok (.aload_n 0, 1) := by decide +kernel
theorem dM_newLock_15 : decode cM_newLock 15 = .ok (.getfield 19, 3) := by decide +kernel
theorem dM_newLock_18 : decode cM_newLock 18 = .ok (.aload_n 0, 1) := by decide +kernel
theorem dM_newLock_19 : decode cM_newLock 19 = .ok (.getfield 77, 3) := by decide +kernel
theorem dM_newLock_22 : decode cM_newLock 22 = .ok (.iload_n 1, 1) := by decide +kernel
theorem dM_newLock_23 : decode cM_newLock 23 = .ok (.iload_n 2, 1) := by decide +kernel
theorem dM_newLock_24 : decode cM_newLock 24 = .ok (.invokestatic 104, 3) := by decide +kernel
theorem dM_newLock_27 : decode cM_newLock 27 = .ok (.iastore, 1) := by decide +kernel
theorem dM_newLock_28 : decode cM_newLock 28 = .ok (.aload_n 0, 1) := by decide +kernel
theorem dM_newLock_29 : decode cM_newLock 29 = .ok (.getfield 22, 3) := by decide +kernel
theorem dM_newLock_32 : decode cM_newLock 32 = .ok (.aload_n 0, 1) := by decide +kernel
theorem dM_newLock_33 : decode cM_newLock 33 = .ok (.getfield 77, 3) := by decide +kernel
theorem dM_newLock_36 : decode cM_newLock 36 = .ok (.iload_n 3, 1) := by decide +kernel
theorem dM_newLock_37 : decode cM_newLock 37 = .ok (.iastore, 1) := by decide +kernel
theorem dM_newLock_38 : decode cM_newLock 38 = .ok (.aload_n 0, 1) := by decide +kernel
theorem dM_newLock_39 : decode cM_newLock 39 = .ok (.getfield 25, 3) := by decide +kernel
theorem dM_newLock_42 : decode cM_newLock 42 = .ok (.aload_n 0, 1) := by decide +kernel
theorem dM_newLock_43 : decode cM_newLock 43 = .ok (.getfield 77, 3) := by decide +kernel
theorem dM_newLock_46 : decode cM_newLock 46 = .ok (.iload 4, 2) := by decide +kernel
theorem dM_newLock_48 : decode cM_newLock 48 = .ok (.iastore, 1) := by decide +kernel
theorem dM_newLock_49 : decode cM_newLock 49 = .ok (.aload_n 0, 1) := by decide +kernel
theorem dM_newLock_50 : decode cM_newLock 50 = .ok (.getfield 28, 3) := by decide +kernel
theorem dM_newLock_53 : decode cM_newLock 53 = .ok (.aload_n 0, 1) := by decide +kernel
theorem dM_newLock_54 : decode cM_newLock 54 = .ok (.dup, 1) := by decide +kernel
theorem dM_newLock_55 : decode cM_newLock 55 = .ok (.getfield 77, 3) := by decide +kernel
theorem dM_newLock_58 : decode cM_newLock 58 = .ok (.dup_x1, 1) := by decide +kernel
theorem dM_newLock_59 : decode cM_newLock 59 = .ok (.iconst 1, 1) := by decide +kernel
theorem dM_newLock_60 : decode cM_newLock 60 = .ok (.iadd, 1) := by decide +kernel
theorem dM_newLock_61 : decode cM_newLock 61 = .ok (.putfield 77, 3) := by decide +kernel
theorem dM_newLock_64 : decode cM_newLock 64 = .ok (.iconst 0, 1) := by decide +kernel
theorem dM_newLock_65 : decode cM_newLock 65 = .ok (.iastore, 1) := by decide +kernel
theorem dM_newLock_66 : decode cM_newLock 66 = .ok (.return_, 1) := by decide +kernel
theorem dM_no_0 : decode cM_no 0 = .ok (.aload_n 0, 1) := by decide +kernel
theorem dM_no_1 : decode cM_no 1 = .ok (.getfield 55, 3) := by decide +kernel
theorem dM_no_4 : decode cM_no 4 = .ok (.iload_n 1, 1) := by decide +kernel
theorem dM_no_5 : decode cM_no 5 = .ok (.ineg, 1) := by decide +kernel
theorem dM_no_6 : decode cM_no 6 = .ok (.dup2, 1) := by decide +kernel
theorem dM_no_7 : decode cM_no 7 = .ok (.iaload, 1) := by decide +kernel
theorem dM_no_8 : decode cM_no 8 = .ok (.iconst 1, 1) := by decide +kernel
theorem dM_no_9 : decode cM_no 9 = .ok (.iadd, 1) := by decide +kernel
theorem dM_no_10 : decode cM_no 10 = .ok (.iastore, 1) := by decide +kernel
theorem dM_no_11 : decode cM_no 11 = .ok (.iload_n 1, 1) := by decide +kernel
theorem dM_no_12 : decode cM_no 12 = .ok (.ireturn, 1) := by decide +kernel
theorem dM_number_0 : decode cM_number 0 = .ok (.aload_n 0, 1) := by decide +kernel
theorem dM_number_1 : decode cM_number 1 = .ok (.invokevirtual 94, 3) := by decide +kernel
theorem dM_number_4 : decode cM_number 4 = .ok (.ifCond .ne 5, 3) := by decide +kernel
theorem dM_number_7 : decode cM_number 7 = .ok (.iconst 0, 1) := by decide +kernel
theorem dM_number_8 : decode cM_number 8 = .ok (.ireturn, 1) := by decide +kernel
theorem dM_number_9 : decode cM_number 9 = .ok (.aload_n 0, 1) := by decide +kernel
theorem dM_number_10 : decode cM_number 10 = .ok (.getfield 49, 3) := by decide +kernel
theorem dM_number_13 : decode cM_number 13 = .ok (.iload_n 1, 1) := by decide +kernel
theorem dM_number_14 : decode cM_number 14 = .ok (.iconst 0, 1) := by decide +kernel
theorem dM_number_15 : decode cM_number 15 = .ok (.iastore, 1) := by decide +kernel
theorem dM_number_16 : decode cM_number 16 = .ok (.iconst 0, 1) := by decide +kernel
theorem dM_number_17 : decode cM_number 17 = .ok (.istore_n 3, 1) := by decide +kernel
theorem dM_number_18 : decode cM_number 18 = .ok (.iload_n 3, 1) := by decide +kernel
theorem dM_number_19 : decode cM_number 19 = .ok (.iload_n 2, 1) := by decide +kernel
theorem dM_number_20 : decode cM_number 20 = .ok (.if_icmp .ge 51, 3) := by decide +kernel
theorem dM_number_23 : decode cM_number 23 = .ok (.aload_n 0, 1) := by decide +kernel
theorem dM_number_24 : decode cM_number 24 = .ok (.invokevirtual 94, 3) := by decide +kernel
theorem dM_number_27 : decode cM_number 27 = .ok (.ifCond .eq 44, 3) := by decide +kernel
theorem dM_number_30 : decode cM_number 30 = .ok (.aload_n 0, 1) := by decide +kernel
theorem dM_number_31 : decode cM_number 31 = .ok (.getfield 49, 3) := by decide +kernel
theorem dM_number_34 : decode cM_number 34 = .ok (.iload_n 1, 1) := by decide +kernel
theorem dM_number_35 : decode cM_number 35 = .ok (.bipush 10, 2) := by decide +kernel
theorem dM_number_37 : decode cM_number 37 = .ok (.aload_n 0, 1) := by decide +kernel
theorem dM_number_38 : decode cM_number 38 = .ok (.getfield 49, 3) := by decide +kernel
theorem dM_number_41 : decode cM_number 41 = .ok (.iload_n 1, 1) := by decide +kernel
theorem dM_number_42 : decode cM_number 42 = .ok (.iaload, 1) := by decide +kernel
theorem dM_number_43 : decode cM_number 43 = .ok (.imul, 1) := by decide +kernel
theorem dM_number_44 : decode cM_number 44 = .ok (.aload_n 0, 1) := by decide +kernel
theorem dM_number_45 : decode cM_number 45 = .ok (.getfield 46, 3) := by decide +kernel
theorem dM_number_48 : decode cM_number 48 = .ok (.aload_n 0, 1) := by decide +kernel
theorem dM_number_49 : decode cM_number 49 = .ok (.dup, 1) := by decide +kernel
theorem dM_number_50 : decode cM_number 50 = .ok (.getfield 91, 3) := by decide +kernel
theorem dM_number_53 : decode cM_number 53 = .ok (.dup_x1, 1) := by decide +kernel
theorem dM_number_54 : decode cM_number 54 = .ok (.iconst 1, 1) := by decide +kernel
theorem dM_number_55 : decode cM_number 55 = .ok (.iadd, 1) := by decide +kernel
theorem dM_number_56 : decode cM_number 56 = .ok (.putfield 91, 3) := by decide +kernel
theorem dM_number_59 : decode cM_number 59 = .ok (.iaload, 1) := by decide +kernel
theorem dM_number_60 : decode cM_number 60 = .ok (.iadd, 1) := by decide +kernel
theorem dM_number_61 : decode cM_number 61 = .ok (.bipush 48, 2) := by decide +kernel
theorem dM_number_63 : decode cM_number 63 = .ok (.isub, 1) := by decide +kernel
theorem dM_number_64 : decode cM_number 64 = .ok (.iastore, 1) := by decide +kernel
theorem dM_number_65 : decode cM_number 65 = .ok (.iinc 3 1, 3) := by decide +kernel
theorem dM_number_68 : decode cM_number 68 = .ok (.goto (-50), 3) := by decide +kernel
theorem dM_number_71 : decode cM_number 71 = .ok (.iconst 1, 1) := by decide +kernel
theorem dM_number_72 : decode cM_number 72 = .ok (.ireturn, 1) := by decide +kernel
theorem dM_on_0 : decode cM_on 0 = .ok (.aload_n 0, 1) := by decide +kernel
theorem dM_on_1 : decode cM_on 1 = .ok (.getfield 204, 3) := by decide +kernel
theorem dM_on_4 : decode cM_on 4 = .ok (.ifCond .ne 10, 3) := by decide +kernel
theorem dM_on_7 : decode cM_on 7 = .ok (.aload_n 0, 1) := by decide +kernel
theorem dM_on_8 : decode cM_on 8 = .ok (.bipush (-3), 2) := by decide +kernel
theorem dM_on_10 : decode cM_on 10 = .ok (.invokevirtual 84, 3) := by decide +kernel
theorem dM_on_13 : decode cM_on 13 = .ok (.ireturn, 1) := by decide +kernel
theorem dM_on_14 : decode cM_on 14 = .ok (.aload_n 0, 1) := by decide +kernel
theorem dM_on_15 : decode cM_on 15 = .ok (.aload_n 0, 1) := by decide +kernel
theorem dM_on_16 : decode cM_on 16 = .ok (.getfield 58, 3) := by decide +kernel
theorem dM_on_19 : decode cM_on 19 = .ok (.invokevirtual 134, 3) := by decide +kernel
theorem dM_on_22 : decode cM_on 22 = .ok (.aload_n 0, 1) := by decide +kernel
theorem dM_on_23 : decode cM_on 23 = .ok (.getfield 146, 3) := by decide +kernel
theorem dM_on_26 : decode cM_on 26 = .ok (.ireturn, 1) := by decide +kernel
theorem dM_open_0 : decode cM_open 0 = .ok (.aload_n 0, 1) := by decide +kernel
theorem dM_open_1 : decode cM_open 1 = .ok (.iload_n 1, 1) := by decide +kernel
theorem dM_open_2 : decode cM_open 2 = .ok (.invokevirtual 155, 3) := by decide +kernel
theorem dM_open_5 : decode cM_open 5 = .ok (.ifCond .ne 9, 3) := by decide +kernel
theorem dM_open_8 : decode cM_open 8 = .ok (.aload_n 0, 1) := by decide +kernel
theorem dM_open_9 : decode cM_open 9 = .ok (.iconst (-1), 1) := by decide +kernel
theorem dM_open_10 : decode cM_open 10 = .ok (.invokevirtual 84, 3) := by decide +kernel
theorem dM_open_13 : decode cM_open 13 = .ok (.ireturn, 1) := by decide +kernel
theorem dM_open_14 : decode cM_open 14 = .ok (.iload_n 2, 1) := by decide +kernel
theorem dM_open_15 : decode cM_open 15 = .ok (.iconst 0, 1) := by decide +kernel
theorem dM_open_16 : decode cM_open 16 = .ok (.iconst 2, 1) := by decide +kernel
theorem dM_open_17 : decode cM_open 17 = .ok (.invokestatic 73, 3) := by decide +kernel
theorem dM_open_20 : decode cM_open 20 = .ok (.ifCond .ne 10, 3) := by decide +kernel
theorem dM_open_23 : decode cM_open 23 = .ok (.aload_n 0, 1) := by decide +kernel
theorem dM_open_24 : decode cM_open 24 = .ok (.bipush (-2), 2) := by decide +kernel
theorem dM_open_26 : decode cM_open 26 = .ok (.invokevirtual 84, 3) := by decide +kernel
theorem dM_open_29 : decode cM_open 29 = .ok (.ireturn, 1) := by decide +kernel
theorem dM_open_30 : decode cM_open 30 = .ok (.aload_n 0, 1) := by decide +kernel
theorem dM_open_31 : decode cM_open 31 = .ok (.getfield 28, 3) := by decide +kernel
theorem dM_open_34 : decode cM_open 34 = .ok (.iload_n 1, 1) := by decide +kernel
theorem dM_open_35 : decode cM_open 35 = .ok (.iaload, 1) := by decide +kernel
theorem dM_open_36 : decode cM_open 36 = .ok (.istore_n 3, 1) := by decide +kernel
theorem dM_open_37 : decode cM_open 37 = .ok (.iload_n 2, 1) := by decide +kernel
theorem dM_open_38 : decode cM_open 38 = .ok (.ifCond .le 19, 3) := by decide +kernel
theorem dM_open_41 : decode cM_open 41 = .ok (.iload_n 3, 1) := by decide +kernel
theorem dM_open_42 : decode cM_open 42 = .ok (.ifCond .le 15, 3) := by decide +kernel
theorem dM_open_45 : decode cM_open 45 = .ok (.iload_n 3, 1) := by decide +kernel
theorem dM_open_46 : decode cM_open 46 = .ok (.iload_n 2, 1) := by decide +kernel
theorem dM_open_47 : decode cM_open 47 = .ok (.if_icmp .eq 10, 3) := by decide +kernel
theorem dM_open_50 : decode cM_open 50 = .ok (.aload_n 0, 1) := by decide +kernel
theorem dM_open_51 : decode cM_open 51 = .ok (.bipush (-3), 2) := by decide +kernel
theorem dM_open_53 : decode cM_open 53 = .ok (.invokevirtual 84, 3) := by decide +kernel
theorem dM_open_56 : decode cM_open 56 = .ok (.ireturn, 1) := by decide +kernel
theorem dM_open_57 : decode cM_open 57 = .ok (.aload_n 0, 1) := by decide +kernel
theorem dM_open_58 : decode cM_open 58 = .ok (.getfield 28, 3) := by decide +kernel
theorem dM_open_61 : decode cM_open 61 = .ok (.iload_n 1, 1) := by decide +kernel
theorem dM_open_62 : decode cM_open 62 = .ok (.iload_n 2, 1) := by decide +kernel
theorem dM_open_63 : decode cM_open 63 = .ok (.iastore, 1) := by decide +kernel
theorem dM_open_64 : decode cM_open 64 = .ok (.iload_n 3, 1) := by decide +kernel
theorem dM_open_65 : decode cM_open 65 = .ok (.ireturn, 1) := by decide +kernel
theorem dM_out_0 : decode cM_out 0 = .ok (.aload_n 0, 1) := by decide +kernel
theorem dM_out_1 : decode cM_out 1 = .ok (.aload_n 0, 1) := by decide +kernel
theorem dM_out_2 : decode cM_out 2 = .ok (.getfield 61, 3) := by decide +kernel
theorem dM_out_5 : decode cM_out 5 = .ok (.invokevirtual 130, 3) := by decide +kernel
theorem dM_out_8 : decode cM_out 8 = .ok (.iconst 1, 1) := by decide +kernel
theorem dM_out_9 : decode cM_out 9 = .ok (.istore_n 1, 1) := by decide +kernel
theorem dM_out_10 : decode cM_out 10 = .ok (.iload_n 1, 1) := by decide +kernel
theorem dM_out_11 : decode cM_out 11 = .ok (.bipush 100, 2) := by decide +kernel
theorem dM_out_13 : decode cM_out 13 = .ok (.if_icmp .ge 17, 3) := by decide +kernel
theorem dM_out_16 : decode cM_out 16 = .ok (.aload_n 0, 1) := by decide +kernel
theorem dM_out_17 : decode cM_out 17 = .ok (.iconst 1, 1) := by decide +kernel
theorem dM_out_18 : decode cM_out 18 = .ok (.invokevirtual 161, 3) := by decide +kernel
theorem dM_out_21 : decode cM_out 21 = .ok (.ifCond .ne 9, 3) := by decide +kernel
theorem dM_out_24 : decode cM_out 24 = .ok (.iinc 1 1, 3) := by decide +kernel
theorem dM_out_27 : decode cM_out 27 = .ok (.goto (-17), 3) := by decide +kernel
theorem dM_out_30 : decode cM_out 30 = .ok (.aload_n 0, 1) := by decide +kernel
theorem dM_out_31 : decode cM_out 31 = .ok (.aload_n 0, 1) := by decide +kernel
theorem dM_out_32 : decode cM_out 32 = .ok (.getfield 61, 3) := by decide +kernel
theorem dM_out_35 : decode cM_out 35 = .ok (.invokevirtual 134, 3) := by decide +kernel
theorem dM_out_38 : decode cM_out 38 = .ok (.iload_n 1, 1) := by decide +kernel
theorem dM_out_39 : decode cM_out 39 = .ok (.bipush 100, 2) := by decide +kernel
theorem dM_out_41 : decode cM_out 41 = .ok (.if_icmp .ge 7, 3) := by decide +kernel
theorem dM_out_44 : decode cM_out 44 = .ok (.iload_n 1, 1) := by decide +kernel
theorem dM_out_45 : decode cM_out 45 = .ok (.goto 5, 3) := by decide +kernel
theorem dM_out_48 : decode cM_out 48 = .ok (.bipush (-9), 2) := by decide +kernel
theorem dM_out_50 : decode cM_out 50 = .ok (.ireturn, 1) := by decide +kernel
theorem dM_pass_0 : decode cM_pass 0 = .ok (.aload_n 0, 1) := by decide +kernel
theorem dM_pass_1 : decode cM_pass 1 = .ok (.getfield 34, 3) := by decide +kernel
theorem dM_pass_4 : decode cM_pass 4 = .ok (.iload_n 1, 1) := by decide +kernel
theorem dM_pass_5 : decode cM_pass 5 = .ok (.aload_n 0, 1) := by decide +kernel
theorem dM_pass_6 : decode cM_pass 6 = .ok (.getfield 16, 3) := by decide +kernel
theorem dM_pass_9 : decode cM_pass 9 = .ok (.iload_n 2, 1) := by decide +kernel
theorem dM_pass_10 : decode cM_pass 10 = .ok (.iaload, 1) := by decide +kernel
theorem dM_pass_11 : decode cM_pass 11 = .ok (.aload_n 0, 1) := by decide +kernel
theorem dM_pass_12 : decode cM_pass 12 = .ok (.getfield 19, 3) := by decide +kernel
theorem dM_pass_15 : decode cM_pass 15 = .ok (.iload_n 2, 1) := by decide +kernel
theorem dM_pass_16 : decode cM_pass 16 = .ok (.iaload, 1) := by decide +kernel
theorem dM_pass_17 : decode cM_pass 17 = .ok (.iadd, 1) := by decide +kernel
theorem dM_pass_18 : decode cM_pass 18 = .ok (.aload_n 0, 1) := by decide +kernel
theorem dM_pass_19 : decode cM_pass 19 = .ok (.getfield 34, 3) := by decide +kernel
theorem dM_pass_22 : decode cM_pass 22 = .ok (.iload_n 1, 1) := by decide +kernel
theorem dM_pass_23 : decode cM_pass 23 = .ok (.iaload, 1) := by decide +kernel
theorem dM_pass_24 : decode cM_pass 24 = .ok (.isub, 1) := by decide +kernel
theorem dM_pass_25 : decode cM_pass 25 = .ok (.iastore, 1) := by decide +kernel
theorem dM_pass_26 : decode cM_pass 26 = .ok (.aload_n 0, 1) := by decide +kernel
theorem dM_pass_27 : decode cM_pass 27 = .ok (.getfield 19, 3) := by decide +kernel
theorem dM_pass_30 : decode cM_pass 30 = .ok (.iload_n 2, 1) := by decide +kernel
theorem dM_pass_31 : decode cM_pass 31 = .ok (.iaload, 1) := by decide +kernel
theorem dM_pass_32 : decode cM_pass 32 = .ok (.bipush 6, 2) := by decide +kernel
theorem dM_pass_34 : decode cM_pass 34 = .ok (.if_icmp .ne 36, 3) := by decide +kernel
theorem dM_pass_37 : decode cM_pass 37 = .ok (.aload_n 0, 1) := by decide +kernel
theorem dM_pass_38 : decode cM_pass 38 = .ok (.getfield 7, 3) := by decide +kernel
theorem dM_pass_41 : decode cM_pass 41 = .ok (.aload_n 0, 1) := by decide +kernel
theorem dM_pass_42 : decode cM_pass 42 = .ok (.getfield 16, 3) := by decide +kernel
theorem dM_pass_45 : decode cM_pass 45 = .ok (.iload_n 2, 1) := by decide +kernel
theorem dM_pass_46 : decode cM_pass 46 = .ok (.iaload, 1) := by decide +kernel
theorem dM_pass_47 : decode cM_pass 47 = .ok (.iconst 0, 1) := by decide +kernel
theorem dM_pass_48 : decode cM_pass 48 = .ok (.aload_n 0, 1) := by decide +kernel
theorem dM_pass_49 : decode cM_pass 49 = .ok (.getfield 7, 3) := by decide +kernel
theorem dM_pass_52 : decode cM_pass 52 = .ok (.aload_n 0, 1) := by decide +kernel
theorem dM_pass_53 : decode cM_pass 53 = .ok (.getfield 16, 3) := by decide +kernel
theorem dM_pass_56 : decode cM_pass 56 = .ok (.iload_n 2, 1) := by decide +kernel
theorem dM_pass_57 : decode cM_pass 57 = .ok (.iaload, 1) := by decide +kernel
theorem dM_pass_58 : decode cM_pass 58 = .ok (.iaload, 1) := by decide +kernel
theorem dM_pass_59 : decode cM_pass 59 = .ok (.aload_n 0, 1) := by decide +kernel
theorem dM_pass_60 : decode cM_pass 60 = .ok (.getfield 22, 3) := by decide +kernel
theorem dM_pass_63 : decode cM_pass 63 = .ok (.iload_n 2, 1) := by decide +kernel
theorem dM_pass_64 : decode cM_pass 64 = .ok (.iaload, 1) := by decide +kernel
theorem dM_pass_65 : decode cM_pass 65 = .ok (.isub, 1) := by decide +kernel
theorem dM_pass_66 : decode cM_pass 66 = .ok (.invokestatic 104, 3) := by decide +kernel
theorem dM_pass_69 : decode cM_pass 69 = .ok (.iastore, 1) := by decide +kernel
theorem dM_pass_70 : decode cM_pass 70 = .ok (.aload_n 0, 1) := by decide +kernel
theorem dM_pass_71 : decode cM_pass 71 = .ok (.aload_n 0, 1) := by decide +kernel
theorem dM_pass_72 : decode cM_pass 72 = .ok (.getfield 25, 3) := by decide +kernel
theorem dM_pass_75 : decode cM_pass 75 = .ok (.iload_n 2, 1) := by decide +kernel
theorem dM_pass_76 : decode cM_pass 76 = .ok (.iaload, 1) := by decide +kernel
theorem dM_pass_77 : decode cM_pass 77 = .ok (.invokevirtual 161, 3) := by decide +kernel
theorem dM_pass_80 : decode cM_pass 80 = .ok (.ireturn, 1) := by decide +kernel
theorem dM_passes_0 : decode cM_passes 0 = .ok (.aload_n 0, 1) := by decide +kernel
theorem dM_passes_1 : decode cM_passes 1 = .ok (.iload_n 1, 1) := by decide +kernel
theorem dM_passes_2 : decode cM_passes 2 = .ok (.invokevirtual 158, 3) := by decide +kernel
theorem dM_passes_5 : decode cM_passes 5 = .ok (.ifCond .eq 11, 3) := by decide +kernel
theorem dM_passes_8 : decode cM_passes 8 = .ok (.aload_n 0, 1) := by decide +kernel
theorem dM_passes_9 : decode cM_passes 9 = .ok (.iload_n 2, 1) := by decide +kernel
theorem dM_passes_10 : decode cM_passes 10 = .ok (.invokevirtual 155, 3) := by decide +kernel
theorem dM_passes_13 : decode cM_passes 13 = .ok (.ifCond .ne 9, 3) := by decide +kernel
theorem dM_passes_16 : decode cM_passes 16 = .ok (.aload_n 0, 1) := by decide +kernel
theorem dM_passes_17 : decode cM_passes 17 = .ok (.iconst (-1), 1) := by decide +kernel
theorem dM_passes_18 : decode cM_passes 18 = .ok (.invokevirtual 84, 3) := by decide +kernel
theorem dM_passes_21 : decode cM_passes 21 = .ok (.ireturn, 1) := by decide +kernel
theorem dM_passes_22 : decode cM_passes 22 = .ok (.aload_n 0, 1) := by decide +kernel
theorem dM_passes_23 : decode cM_passes 23 = .ok (.iload_n 1, 1) := by decide +kernel
theorem dM_passes_24 : decode cM_passes 24 = .ok (.iload_n 2, 1) := by decide +kernel
theorem dM_passes_25 : decode cM_passes 25 = .ok (.invokevirtual 164, 3) := by decide +kernel
theorem dM_passes_28 : decode cM_passes 28 = .ok (.ifCond .ne 10, 3) := by decide +kernel
theorem dM_passes_31 : decode cM_passes 31 = .ok (.aload_n 0, 1) := by decide +kernel
theorem dM_passes_32 : decode cM_passes 32 = .ok (.bipush (-3), 2) := by decide +kernel
theorem dM_passes_34 : decode cM_passes 34 = .ok (.invokevirtual 84, 3) := by decide +kernel
theorem dM_passes_37 : decode cM_passes 37 = .ok (.ireturn, 1) := by decide +kernel
theorem dM_passes_38 : decode cM_passes 38 = .ok (.aload_n 0, 1) := by decide +kernel
theorem dM_passes_39 : decode cM_passes 39 = .ok (.getfield 146, 3) := by decide +kernel
theorem dM_passes_42 : decode cM_passes 42 = .ok (.aload_n 0, 1) := by decide +kernel
theorem dM_passes_43 : decode cM_passes 43 = .ok (.getfield 25, 3) := by decide +kernel
theorem dM_passes_46 : decode cM_passes 46 = .ok (.iload_n 2, 1) := by decide +kernel
theorem dM_passes_47 : decode cM_passes 47 = .ok (.iaload, 1) := by decide +kernel
theorem dM_passes_48 : decode cM_passes 48 = .ok (.iadd, 1) := by decide +kernel
theorem dM_passes_49 : decode cM_passes 49 = .ok (.sipush 999, 3) := by decide +kernel
theorem dM_passes_52 : decode cM_passes 52 = .ok (.if_icmp .le 10, 3) := by decide +kernel
theorem dM_passes_55 : decode cM_passes 55 = .ok (.aload_n 0, 1) := by decide +kernel
theorem dM_passes_56 : decode cM_passes 56 = .ok (.bipush (-6), 2) := by decide +kernel
theorem dM_passes_58 : decode cM_passes 58 = .ok (.invokevirtual 84, 3) := by decide +kernel
theorem dM_passes_61 : decode cM_passes 61 = .ok (.ireturn, 1) := by decide +kernel
theorem dM_passes_62 : decode cM_passes 62 = .ok (.aload_n 0, 1) := by decide +kernel
theorem dM_passes_63 : decode cM_passes 63 = .ok (.iload_n 1, 1) := by decide +kernel
theorem dM_passes_64 : decode cM_passes 64 = .ok (.iload_n 2, 1) := by decide +kernel
theorem dM_passes_65 : decode cM_passes 65 = .ok (.invokevirtual 167, 3) := by decide +kernel
theorem dM_passes_68 : decode cM_passes 68 = .ok (.pop, 1) := by decide +kernel
theorem dM_passes_69 : decode cM_passes 69 = .ok (.aload_n 0, 1) := by decide +kernel
theorem dM_passes_70 : decode cM_passes 70 = .ok (.getfield 34, 3) := by decide +kernel
theorem dM_passes_73 : decode cM_passes 73 = .ok (.iload_n 1, 1) := by decide +kernel
theorem dM_passes_74 : decode cM_passes 74 = .ok (.iaload, 1) := by decide +kernel
theorem dM_passes_75 : decode cM_passes 75 = .ok (.ireturn, 1) := by decide +kernel
theorem dM_person_0 : decode cM_person 0 = .ok (.aload_n 0, 1) := by decide +kernel
theorem dM_person_1 : decode cM_person 1 = .ok (.iload_n 1, 1) := by decide +kernel
theorem dM_person_2 : decode cM_person 2 = .ok (.invokevirtual 158, 3) := by decide +kernel
theorem dM_person_5 : decode cM_person 5 = .ok (.ifCond .ne 9, 3) := by decide +kernel
theorem dM_person_8 : decode cM_person 8 = .ok (.aload_n 0, 1) := by decide +kernel
theorem dM_person_9 : decode cM_person 9 = .ok (.iconst (-1), 1) := by decide +kernel
theorem dM_person_10 : decode cM_person 10 = .ok (.invokevirtual 84, 3) := by decide +kernel
theorem dM_person_13 : decode cM_person 13 = .ok (.ireturn, 1) := by decide +kernel
theorem dM_person_14 : decode cM_person 14 = .ok (.iload_n 2, 1) := by decide +kernel
theorem dM_person_15 : decode cM_person 15 = .ok (.tableswitch 67 0 4 #[33, 40, 47, 54, 61], 33) := by decide +kernel
theorem dM_person_48 : decode cM_person 48 = .ok (.aload_n 0, 1) := by decide +kernel
theorem dM_person_49 : decode cM_person 49 = .ok (.getfield 31, 3) := by decide +kernel
theorem dM_person_52 : decode cM_person 52 = .ok (.iload_n 1, 1) := by decide +kernel
theorem dM_person_53 : decode cM_person 53 = .ok (.iaload, 1) := by decide +kernel
theorem dM_person_54 : decode cM_person 54 = .ok (.ireturn, 1) := by decide +kernel
theorem dM_person_55 : decode cM_person 55 = .ok (.aload_n 0, 1) := by decide +kernel
theorem dM_person_56 : decode cM_person 56 = .ok (.getfield 34, 3) := by decide +kernel
theorem dM_person_59 : decode cM_person 59 = .ok (.iload_n 1, 1) := by decide +kernel
theorem dM_person_60 : decode cM_person 60 = .ok (.iaload, 1) := by decide +kernel
theorem dM_person_61 : decode cM_person 61 = .ok (.ireturn, 1) := by decide +kernel
theorem dM_person_62 : decode cM_person 62 = .ok (.aload_n 0, 1) := by decide +kernel
theorem dM_person_63 : decode cM_person 63 = .ok (.getfield 37, 3) := by decide +kernel
theorem dM_person_66 : decode cM_person 66 = .ok (.iload_n 1, 1) := by decide +kernel
theorem dM_person_67 : decode cM_person 67 = .ok (.iaload, 1) := by decide +kernel
theorem dM_person_68 : decode cM_person 68 = .ok (.ireturn, 1) := by decide +kernel
theorem dM_person_69 : decode cM_person 69 = .ok (.aload_n 0, 1) := by decide +kernel
theorem dM_person_70 : decode cM_person 70 = .ok (.getfield 40, 3) := by decide +kernel
theorem dM_person_73 : decode cM_person 73 = .ok (.iload_n 1, 1) := by decide +kernel
theorem dM_person_74 : decode cM_person 74 = .ok (.iaload, 1) := by decide +kernel
theorem dM_person_75 : decode cM_person 75 = .ok (.ireturn, 1) := by decide +kernel
theorem dM_person_76 : decode cM_person 76 = .ok (.aload_n 0, 1) := by decide +kernel
theorem dM_person_77 : decode cM_person 77 = .ok (.iload_n 1, 1) := by decide +kernel
theorem dM_person_78 : decode cM_person 78 = .ok (.invokevirtual 140, 3) := by decide +kernel
theorem dM_person_81 : decode cM_person 81 = .ok (.ireturn, 1) := by decide +kernel
theorem dM_person_82 : decode cM_person 82 = .ok (.aload_n 0, 1) := by decide +kernel
theorem dM_person_83 : decode cM_person 83 = .ok (.bipush (-2), 2) := by decide +kernel
theorem dM_person_85 : decode cM_person 85 = .ok (.invokevirtual 84, 3) := by decide +kernel
theorem dM_person_88 : decode cM_person 88 = .ok (.ireturn, 1) := by decide +kernel
theorem dM_room_0 : decode cM_room 0 = .ok (.iload_n 1, 1) := by decide +kernel
theorem dM_room_1 : decode cM_room 1 = .ok (.invokestatic 152, 3) := by decide +kernel
theorem dM_room_4 : decode cM_room 4 = .ok (.ifCond .ne 9, 3) := by decide +kernel
theorem dM_room_7 : decode cM_room 7 = .ok (.aload_n 0, 1) := by decide +kernel
theorem dM_room_8 : decode cM_room 8 = .ok (.iconst (-1), 1) := by decide +kernel
theorem dM_room_9 : decode cM_room 9 = .ok (.invokevirtual 84, 3) := by decide +kernel
theorem dM_room_12 : decode cM_room 12 = .ok (.ireturn, 1) := by decide +kernel
theorem dM_room_13 : decode cM_room 13 = .ok (.iload_n 2, 1) := by decide +kernel
theorem dM_room_14 : decode cM_room 14 = .ok (.tableswitch 56 0 3 #[30, 37, 44, 50], 30) := by decide +kernel
theorem dM_room_44 : decode cM_room 44 = .ok (.aload_n 0, 1) := by decide +kernel
theorem dM_room_45 : decode cM_room 45 = .ok (.getfield 7, 3) := by decide +kernel
theorem dM_room_48 : decode cM_room 48 = .ok (.iload_n 1, 1) := by decide +kernel
theorem dM_room_49 : decode cM_room 49 = .ok (.iaload, 1) := by decide +kernel
theorem dM_room_50 : decode cM_room 50 = .ok (.ireturn, 1) := by decide +kernel
theorem dM_room_51 : decode cM_room 51 = .ok (.aload_n 0, 1) := by decide +kernel
theorem dM_room_52 : decode cM_room 52 = .ok (.getfield 13, 3) := by decide +kernel
theorem dM_room_55 : decode cM_room 55 = .ok (.iload_n 1, 1) := by decide +kernel
theorem dM_room_56 : decode cM_room 56 = .ok (.iaload, 1) := by decide +kernel
theorem dM_room_57 : decode cM_room 57 = .ok (.ireturn, 1) := by decide +kernel
theorem dM_room_58 : decode cM_room 58 = .ok (.aload_n 0, 1) := by decide +kernel
theorem dM_room_59 : decode cM_room 59 = .ok (.iload_n 1, 1) := by decide +kernel
theorem dM_room_60 : decode cM_room 60 = .ok (.invokevirtual 137, 3) := by decide +kernel
theorem dM_room_63 : decode cM_room 63 = .ok (.ireturn, 1) := by decide +kernel
theorem dM_room_64 : decode cM_room 64 = .ok (.aload_n 0, 1) := by decide +kernel
theorem dM_room_65 : decode cM_room 65 = .ok (.iload_n 1, 1) := by decide +kernel
theorem dM_room_66 : decode cM_room 66 = .ok (.invokevirtual 143, 3) := by decide +kernel
theorem dM_room_69 : decode cM_room 69 = .ok (.ireturn, 1) := by decide +kernel
theorem dM_room_70 : decode cM_room 70 = .ok (.aload_n 0, 1) := by decide +kernel
theorem dM_room_71 : decode cM_room 71 = .ok (.bipush (-2), 2) := by decide +kernel
theorem dM_room_73 : decode cM_room 73 = .ok (.invokevirtual 84, 3) := by decide +kernel
theorem dM_room_76 : decode cM_room 76 = .ok (.ireturn, 1) := by decide +kernel
theorem dM_row_0 : decode cM_row 0 = .ok (.iload_n 1, 1) := by decide +kernel
theorem dM_row_1 : decode cM_row 1 = .ok (.ifCond .ge 10, 3) := by decide +kernel
theorem dM_row_4 : decode cM_row 4 = .ok (.aload_n 0, 1) := by decide +kernel
theorem dM_row_5 : decode cM_row 5 = .ok (.bipush (-4), 2) := by decide +kernel
theorem dM_row_7 : decode cM_row 7 = .ok (.invokevirtual 84, 3) := by decide +kernel
theorem dM_row_10 : decode cM_row 10 = .ok (.ireturn, 1) := by decide +kernel
theorem dM_row_11 : decode cM_row 11 = .ok (.iload_n 1, 1) := by decide +kernel
theorem dM_row_12 : decode cM_row 12 = .ok (.sipush 999, 3) := by decide +kernel
theorem dM_row_15 : decode cM_row 15 = .ok (.if_icmp .gt 12, 3) := by decide +kernel
theorem dM_row_18 : decode cM_row 18 = .ok (.aload_n 0, 1) := by decide +kernel
theorem dM_row_19 : decode cM_row 19 = .ok (.getfield 192, 3) := by decide +kernel
theorem dM_row_22 : decode cM_row 22 = .ok (.bipush 12, 2) := by decide +kernel
theorem dM_row_24 : decode cM_row 24 = .ok (.if_icmp .ne 10, 3) := by decide +kernel
theorem dM_row_27 : decode cM_row 27 = .ok (.aload_n 0, 1) := by decide +kernel
theorem dM_row_28 : decode cM_row 28 = .ok (.bipush (-6), 2) := by decide +kernel
theorem dM_row_30 : decode cM_row 30 = .ok (.invokevirtual 84, 3) := by decide +kernel
theorem dM_row_33 : decode cM_row 33 = .ok (.ireturn, 1) := by decide +kernel
theorem dM_row_34 : decode cM_row 34 = .ok (.aload_n 0, 1) := by decide +kernel
theorem dM_row_35 : decode cM_row 35 = .ok (.getfield 52, 3) := by decide +kernel
theorem dM_row_38 : decode cM_row 38 = .ok (.aload_n 0, 1) := by decide +kernel
theorem dM_row_39 : decode cM_row 39 = .ok (.dup, 1) := by decide +kernel
theorem dM_row_40 : decode cM_row 40 = .ok (.getfield 192, 3) := by decide +kernel
theorem dM_row_43 : decode cM_row 43 = .ok (.dup_x1, 1) := by decide +kernel
theorem dM_row_44 : decode cM_row 44 = .ok (.iconst 1, 1) := by decide +kernel
theorem dM_row_45 : decode cM_row 45 = .ok (.iadd, 1) := by decide +kernel
theorem dM_row_46 : decode cM_row 46 = .ok (.putfield 192, 3) := by decide +kernel
theorem dM_row_49 : decode cM_row 49 = .ok (.iload_n 1, 1) := by decide +kernel
theorem dM_row_50 : decode cM_row 50 = .ok (.iastore, 1) := by decide +kernel
theorem dM_row_51 : decode cM_row 51 = .ok (.aload_n 0, 1) := by decide +kernel
theorem dM_row_52 : decode cM_row 52 = .ok (.getfield 192, 3) := by decide +kernel
theorem dM_row_55 : decode cM_row 55 = .ok (.ireturn, 1) := by decide +kernel
theorem dM_seeds_0 : decode cM_seeds 0 = .ok (.iload_n 1, 1) := by decide +kernel
theorem dM_seeds_1 : decode cM_seeds 1 = .ok (.iconst 1, 1) := by decide +kernel
theorem dM_seeds_2 : decode cM_seeds 2 = .ok (.if_icmp .ge 10, 3) := by decide +kernel
theorem dM_seeds_5 : decode cM_seeds 5 = .ok (.aload_n 0, 1) := by decide +kernel
theorem dM_seeds_6 : decode cM_seeds 6 = .ok (.bipush (-4), 2) := by decide +kernel
theorem dM_seeds_8 : decode cM_seeds 8 = .ok (.invokevirtual 84, 3) := by decide +kernel
theorem dM_seeds_11 : decode cM_seeds 11 = .ok (.ireturn, 1) := by decide +kernel
theorem dM_seeds_12 : decode cM_seeds 12 = .ok (.iload_n 1, 1) := by decide +kernel
theorem dM_seeds_13 : decode cM_seeds 13 = .ok (.bipush 30, 2) := by decide +kernel
theorem dM_seeds_15 : decode cM_seeds 15 = .ok (.if_icmp .le 10, 3) := by decide +kernel
theorem dM_seeds_18 : decode cM_seeds 18 = .ok (.aload_n 0, 1) := by decide +kernel
theorem dM_seeds_19 : decode cM_seeds 19 = .ok (.bipush (-6), 2) := by decide +kernel
theorem dM_seeds_21 : decode cM_seeds 21 = .ok (.invokevirtual 84, 3) := by decide +kernel
theorem dM_seeds_24 : decode cM_seeds 24 = .ok (.ireturn, 1) := by decide +kernel
theorem dM_seeds_25 : decode cM_seeds 25 = .ok (.aload_n 0, 1) := by decide +kernel
theorem dM_seeds_26 : decode cM_seeds 26 = .ok (.getfield 81, 3) := by decide +kernel
theorem dM_seeds_29 : decode cM_seeds 29 = .ok (.ifCond .eq 10, 3) := by decide +kernel
theorem dM_seeds_32 : decode cM_seeds 32 = .ok (.aload_n 0, 1) := by decide +kernel
theorem dM_seeds_33 : decode cM_seeds 33 = .ok (.getfield 77, 3) := by decide +kernel
theorem dM_seeds_36 : decode cM_seeds 36 = .ok (.ifCond .ne 10, 3) := by decide +kernel
theorem dM_seeds_39 : decode cM_seeds 39 = .ok (.aload_n 0, 1) := by decide +kernel
theorem dM_seeds_40 : decode cM_seeds 40 = .ok (.bipush (-3), 2) := by decide +kernel
theorem dM_seeds_42 : decode cM_seeds 42 = .ok (.invokevirtual 84, 3) := by decide +kernel
theorem dM_seeds_45 : decode cM_seeds 45 = .ok (.ireturn, 1) := by decide +kernel
theorem dM_seeds_46 : decode cM_seeds 46 = .ok (.aload_n 0, 1) := by decide +kernel
theorem dM_seeds_47 : decode cM_seeds 47 = .ok (.aload_n 0, 1) := by decide +kernel
theorem dM_seeds_48 : decode cM_seeds 48 = .ok (.getfield 61, 3) := by decide +kernel
theorem dM_seeds_51 : decode cM_seeds 51 = .ok (.invokevirtual 130, 3) := by decide +kernel
theorem dM_seeds_54 : decode cM_seeds 54 = .ok (.iload_n 2, 1) := by decide +kernel
theorem dM_seeds_55 : decode cM_seeds 55 = .ok (.istore_n 3, 1) := by decide +kernel
theorem dM_seeds_56 : decode cM_seeds 56 = .ok (.iconst 0, 1) := by decide +kernel
theorem dM_seeds_57 : decode cM_seeds 57 = .ok (.istore 4, 2) := by decide +kernel
theorem dM_seeds_59 : decode cM_seeds 59 = .ok (.iconst 0, 1) := by decide +kernel
theorem dM_seeds_60 : decode cM_seeds 60 = .ok (.istore 5, 2) := by decide +kernel
theorem dM_seeds_62 : decode cM_seeds 62 = .ok (.iload 5, 2) := by decide +kernel
theorem dM_seeds_64 : decode cM_seeds 64 = .ok (.iload_n 1, 1) := by decide +kernel
theorem dM_seeds_65 : decode cM_seeds 65 = .ok (.if_icmp .ge 81, 3) := by decide +kernel
theorem dM_seeds_68 : decode cM_seeds 68 = .ok (.iload_n 3, 1) := by decide +kernel
theorem dM_seeds_69 : decode cM_seeds 69 = .ok (.ldc 201, 2) := by decide +kernel
theorem dM_seeds_71 : decode cM_seeds 71 = .ok (.imul, 1) := by decide +kernel
theorem dM_seeds_72 : decode cM_seeds 72 = .ok (.ldc 202, 2) := by decide +kernel
theorem dM_seeds_74 : decode cM_seeds 74 = .ok (.iadd, 1) := by decide +kernel
theorem dM_seeds_75 : decode cM_seeds 75 = .ok (.istore_n 3, 1) := by decide +kernel
theorem dM_seeds_76 : decode cM_seeds 76 = .ok (.iload_n 3, 1) := by decide +kernel
theorem dM_seeds_77 : decode cM_seeds 77 = .ok (.ldc 203, 2) := by decide +kernel
theorem dM_seeds_79 : decode cM_seeds 79 = .ok (.iand, 1) := by decide +kernel
theorem dM_seeds_80 : decode cM_seeds 80 = .ok (.sipush 256, 3) := by decide +kernel
theorem dM_seeds_83 : decode cM_seeds 83 = .ok (.idiv, 1) := by decide +kernel
theorem dM_seeds_84 : decode cM_seeds 84 = .ok (.aload_n 0, 1) := by decide +kernel
theorem dM_seeds_85 : decode cM_seeds 85 = .ok (.getfield 81, 3) := by decide +kernel
theorem dM_seeds_88 : decode cM_seeds 88 = .ok (.irem, 1) := by decide +kernel
theorem dM_seeds_89 : decode cM_seeds 89 = .ok (.istore 6, 2) := by decide +kernel
theorem dM_seeds_91 : decode cM_seeds 91 = .ok (.iload_n 3, 1) := by decide +kernel
theorem dM_seeds_92 : decode cM_seeds 92 = .ok (.ldc 201, 2) := by decide +kernel
theorem dM_seeds_94 : decode cM_seeds 94 = .ok (.imul, 1) := by decide +kernel
theorem dM_seeds_95 : decode cM_seeds 95 = .ok (.ldc 202, 2) := by decide +kernel
theorem dM_seeds_97 : decode cM_seeds 97 = .ok (.iadd, 1) := by decide +kernel
theorem dM_seeds_98 : decode cM_seeds 98 = .ok (.istore_n 3, 1) := by decide +kernel
theorem dM_seeds_99 : decode cM_seeds 99 = .ok (.iload_n 3, 1) := by decide +kernel
theorem dM_seeds_100 : decode cM_seeds 100 = .ok (.ldc 203, 2) := by decide +kernel
theorem dM_seeds_102 : decode cM_seeds 102 = .ok (.iand, 1) := by decide +kernel
theorem dM_seeds_103 : decode cM_seeds 103 = .ok (.sipush 256, 3) := by decide +kernel
theorem dM_seeds_106 : decode cM_seeds 106 = .ok (.idiv, 1) := by decide +kernel
theorem dM_seeds_107 : decode cM_seeds 107 = .ok (.aload_n 0, 1) := by decide +kernel
theorem dM_seeds_108 : decode cM_seeds 108 = .ok (.getfield 77, 3) := by decide +kernel
theorem dM_seeds_111 : decode cM_seeds 111 = .ok (.irem, 1) := by decide +kernel
theorem dM_seeds_112 : decode cM_seeds 112 = .ok (.istore 7, 2) := by decide +kernel
theorem dM_seeds_114 : decode cM_seeds 114 = .ok (.aload_n 0, 1) := by decide +kernel
theorem dM_seeds_115 : decode cM_seeds 115 = .ok (.iload 6, 2) := by decide +kernel
theorem dM_seeds_117 : decode cM_seeds 117 = .ok (.iload 7, 2) := by decide +kernel
theorem dM_seeds_119 : decode cM_seeds 119 = .ok (.invokevirtual 164, 3) := by decide +kernel
theorem dM_seeds_122 : decode cM_seeds 122 = .ok (.ifCond .ne 6, 3) := by decide +kernel
theorem dM_seeds_125 : decode cM_seeds 125 = .ok (.goto 15, 3) := by decide +kernel
theorem dM_seeds_128 : decode cM_seeds 128 = .ok (.aload_n 0, 1) := by decide +kernel
theorem dM_seeds_129 : decode cM_seeds 129 = .ok (.iload 6, 2) := by decide +kernel
theorem dM_seeds_131 : decode cM_seeds 131 = .ok (.iload 7, 2) := by decide +kernel
theorem dM_seeds_133 : decode cM_seeds 133 = .ok (.invokevirtual 167, 3) := by decide +kernel
theorem dM_seeds_136 : decode cM_seeds 136 = .ok (.pop, 1) := by decide +kernel
theorem dM_seeds_137 : decode cM_seeds 137 = .ok (.iinc 4 1, 3) := by decide +kernel
theorem dM_seeds_140 : decode cM_seeds 140 = .ok (.iinc 5 1, 3) := by decide +kernel
theorem dM_seeds_143 : decode cM_seeds 143 = .ok (.goto (-81), 3) := by decide +kernel
theorem dM_seeds_146 : decode cM_seeds 146 = .ok (.aload_n 0, 1) := by decide +kernel
theorem dM_seeds_147 : decode cM_seeds 147 = .ok (.aload_n 0, 1) := by decide +kernel
theorem dM_seeds_148 : decode cM_seeds 148 = .ok (.getfield 61, 3) := by decide +kernel
theorem dM_seeds_151 : decode cM_seeds 151 = .ok (.invokevirtual 134, 3) := by decide +kernel
theorem dM_seeds_154 : decode cM_seeds 154 = .ok (.iload 4, 2) := by decide +kernel
theorem dM_seeds_156 : decode cM_seeds 156 = .ok (.ireturn, 1) := by decide +kernel
theorem dM_soonest_0 : decode cM_soonest 0 = .ok (.iload_n 1, 1) := by decide +kernel
theorem dM_soonest_1 : decode cM_soonest 1 = .ok (.invokestatic 170, 3) := by decide +kernel
theorem dM_soonest_4 : decode cM_soonest 4 = .ok (.ifCond .ne 9, 3) := by decide +kernel
theorem dM_soonest_7 : decode cM_soonest 7 = .ok (.aload_n 0, 1) := by decide +kernel
theorem dM_soonest_8 : decode cM_soonest 8 = .ok (.iconst (-1), 1) := by decide +kernel
theorem dM_soonest_9 : decode cM_soonest 9 = .ok (.invokevirtual 84, 3) := by decide +kernel
theorem dM_soonest_12 : decode cM_soonest 12 = .ok (.ireturn, 1) := by decide +kernel
theorem dM_soonest_13 : decode cM_soonest 13 = .ok (.aload_n 0, 1) := by decide +kernel
theorem dM_soonest_14 : decode cM_soonest 14 = .ok (.iload_n 1, 1) := by decide +kernel
theorem dM_soonest_15 : decode cM_soonest 15 = .ok (.invokevirtual 173, 3) := by decide +kernel
theorem dM_soonest_18 : decode cM_soonest 18 = .ok (.sipush 10000, 3) := by decide +kernel
theorem dM_soonest_21 : decode cM_soonest 21 = .ok (.istore_n 2, 1) := by decide +kernel
theorem dM_soonest_22 : decode cM_soonest 22 = .ok (.iconst 0, 1) := by decide +kernel
theorem dM_soonest_23 : decode cM_soonest 23 = .ok (.istore_n 3, 1) := by decide +kernel
theorem dM_soonest_24 : decode cM_soonest 24 = .ok (.iload_n 3, 1) := by decide +kernel
theorem dM_soonest_25 : decode cM_soonest 25 = .ok (.bipush 6, 2) := by decide +kernel
theorem dM_soonest_27 : decode cM_soonest 27 = .ok (.if_icmp .ge 20, 3) := by decide +kernel
theorem dM_soonest_30 : decode cM_soonest 30 = .ok (.iload_n 2, 1) := by decide +kernel
theorem dM_soonest_31 : decode cM_soonest 31 = .ok (.aload_n 0, 1) := by decide +kernel
theorem dM_soonest_32 : decode cM_soonest 32 = .ok (.getfield 64, 3) := by decide +kernel
theorem dM_soonest_35 : decode cM_soonest 35 = .ok (.iload_n 3, 1) := by decide +kernel
theorem dM_soonest_36 : decode cM_soonest 36 = .ok (.iaload, 1) := by decide +kernel
theorem dM_soonest_37 : decode cM_soonest 37 = .ok (.invokestatic 98, 3) := by decide +kernel
theorem dM_soonest_40 : decode cM_soonest 40 = .ok (.istore_n 2, 1) := by decide +kernel
theorem dM_soonest_41 : decode cM_soonest 41 = .ok (.iinc 3 1, 3) := by decide +kernel
theorem dM_soonest_44 : decode cM_soonest 44 = .ok (.goto (-20), 3) := by decide +kernel
theorem dM_soonest_47 : decode cM_soonest 47 = .ok (.iload_n 2, 1) := by decide +kernel
theorem dM_soonest_48 : decode cM_soonest 48 = .ok (.sipush 10000, 3) := by decide +kernel
theorem dM_soonest_51 : decode cM_soonest 51 = .ok (.if_icmp .ge 7, 3) := by decide +kernel
theorem dM_soonest_54 : decode cM_soonest 54 = .ok (.iload_n 2, 1) := by decide +kernel
theorem dM_soonest_55 : decode cM_soonest 55 = .ok (.goto 5, 3) := by decide +kernel
theorem dM_soonest_58 : decode cM_soonest 58 = .ok (.bipush (-9), 2) := by decide +kernel
theorem dM_soonest_60 : decode cM_soonest 60 = .ok (.ireturn, 1) := by decide +kernel
theorem dM_statement_0 : decode cM_statement 0 = .ok (.aload_n 0, 1) := by decide +kernel
theorem dM_statement_1 : decode cM_statement 1 = .ok (.bipush 114, 2) := by decide +kernel
theorem dM_statement_3 : decode cM_statement 3 = .ok (.invokevirtual 107, 3) := by decide +kernel
theorem dM_statement_6 : decode cM_statement 6 = .ok (.ifCond .eq 69, 3) := by decide +kernel
theorem dM_statement_9 : decode cM_statement 9 = .ok (.aload_n 0, 1) := by decide +kernel
theorem dM_statement_10 : decode cM_statement 10 = .ok (.iconst 0, 1) := by decide +kernel
theorem dM_statement_11 : decode cM_statement 11 = .ok (.iconst 1, 1) := by decide +kernel
theorem dM_statement_12 : decode cM_statement 12 = .ok (.invokevirtual 111, 3) := by decide +kernel
theorem dM_statement_15 : decode cM_statement 15 = .ok (.ifCond .eq 21, 3) := by decide +kernel
theorem dM_statement_18 : decode cM_statement 18 = .ok (.aload_n 0, 1) := by decide +kernel
theorem dM_statement_19 : decode cM_statement 19 = .ok (.bipush 44, 2) := by decide +kernel
theorem dM_statement_21 : decode cM_statement 21 = .ok (.invokevirtual 107, 3) := by decide +kernel
theorem dM_statement_24 : decode cM_statement 24 = .ok (.ifCond .eq 12, 3) := by decide +kernel
theorem dM_statement_27 : decode cM_statement 27 = .ok (.aload_n 0, 1) := by decide +kernel
theorem dM_statement_28 : decode cM_statement 28 = .ok (.iconst 1, 1) := by decide +kernel
theorem dM_statement_29 : decode cM_statement 29 = .ok (.iconst 3, 1) := by decide +kernel
theorem dM_statement_30 : decode cM_statement 30 = .ok (.invokevirtual 111, 3) := by decide +kernel
theorem dM_statement_33 : decode cM_statement 33 = .ok (.ifCond .ne 5, 3) := by decide +kernel
theorem dM_statement_36 : decode cM_statement 36 = .ok (.iconst (-1), 1) := by decide +kernel
theorem dM_statement_37 : decode cM_statement 37 = .ok (.ireturn, 1) := by decide +kernel
theorem dM_statement_38 : decode cM_statement 38 = .ok (.iload_n 1, 1) := by decide +kernel
theorem dM_statement_39 : decode cM_statement 39 = .ok (.ifCond .ne 5, 3) := by decide +kernel
theorem dM_statement_42 : decode cM_statement 42 = .ok (.iconst 1, 1) := by decide +kernel
theorem dM_statement_43 : decode cM_statement 43 = .ok (.ireturn, 1) := by decide +kernel
theorem dM_statement_44 : decode cM_statement 44 = .ok (.aload_n 0, 1) := by decide +kernel
theorem dM_statement_45 : decode cM_statement 45 = .ok (.getfield 49, 3) := by decide +kernel
theorem dM_statement_48 : decode cM_statement 48 = .ok (.iconst 0, 1) := by decide +kernel
theorem dM_statement_49 : decode cM_statement 49 = .ok (.iaload, 1) := by decide +kernel
theorem dM_statement_50 : decode cM_statement 50 = .ok (.iconst 5, 1) := by decide +kernel
theorem dM_statement_51 : decode cM_statement 51 = .ok (.if_icmp .le 5, 3) := by decide +kernel
theorem dM_statement_54 : decode cM_statement 54 = .ok (.iconst 0, 1) := by decide +kernel
theorem dM_statement_55 : decode cM_statement 55 = .ok (.ireturn, 1) := by decide +kernel
theorem dM_statement_56 : decode cM_statement 56 = .ok (.aload_n 0, 1) := by decide +kernel
theorem dM_statement_57 : decode cM_statement 57 = .ok (.getfield 7, 3) := by decide +kernel
theorem dM_statement_60 : decode cM_statement 60 = .ok (.aload_n 0, 1) := by decide +kernel
theorem dM_statement_61 : decode cM_statement 61 = .ok (.getfield 49, 3) := by decide +kernel
theorem dM_statement_64 : decode cM_statement 64 = .ok (.iconst 0, 1) := by decide +kernel
theorem dM_statement_65 : decode cM_statement 65 = .ok (.iaload, 1) := by decide +kernel
theorem dM_statement_66 : decode cM_statement 66 = .ok (.aload_n 0, 1) := by decide +kernel
theorem dM_statement_67 : decode cM_statement 67 = .ok (.getfield 49, 3) := by decide +kernel
theorem dM_statement_70 : decode cM_statement 70 = .ok (.iconst 1, 1) := by decide +kernel
theorem dM_statement_71 : decode cM_statement 71 = .ok (.iaload, 1) := by decide +kernel
theorem dM_statement_72 : decode cM_statement 72 = .ok (.iastore, 1) := by decide +kernel
theorem dM_statement_73 : decode cM_statement 73 = .ok (.iconst 1, 1) := by decide +kernel
theorem dM_statement_74 : decode cM_statement 74 = .ok (.ireturn, 1) := by decide +kernel
theorem dM_statement_75 : decode cM_statement 75 = .ok (.aload_n 0, 1) := by decide +kernel
theorem dM_statement_76 : decode cM_statement 76 = .ok (.bipush 107, 2) := by decide +kernel
theorem dM_statement_78 : decode cM_statement 78 = .ok (.invokevirtual 107, 3) := by decide +kernel
theorem dM_statement_81 : decode cM_statement 81 = .ok (.ifCond .eq 60, 3) := by decide +kernel
theorem dM_statement_84 : decode cM_statement 84 = .ok (.aload_n 0, 1) := by decide +kernel
theorem dM_statement_85 : decode cM_statement 85 = .ok (.iconst 0, 1) := by decide +kernel
theorem dM_statement_86 : decode cM_statement 86 = .ok (.iconst 1, 1) := by decide +kernel
theorem dM_statement_87 : decode cM_statement 87 = .ok (.invokevirtual 111, 3) := by decide +kernel
theorem dM_statement_90 : decode cM_statement 90 = .ok (.ifCond .eq 12, 3) := by decide +kernel
theorem dM_statement_93 : decode cM_statement 93 = .ok (.aload_n 0, 1) := by decide +kernel
theorem dM_statement_94 : decode cM_statement 94 = .ok (.iconst 1, 1) := by decide +kernel
theorem dM_statement_95 : decode cM_statement 95 = .ok (.iconst 1, 1) := by decide +kernel
theorem dM_statement_96 : decode cM_statement 96 = .ok (.invokevirtual 111, 3) := by decide +kernel
theorem dM_statement_99 : decode cM_statement 99 = .ok (.ifCond .ne 5, 3) := by decide +kernel
theorem dM_statement_102 : decode cM_statement 102 = .ok (.iconst (-1), 1) := by decide +kernel
theorem dM_statement_103 : decode cM_statement 103 = .ok (.ireturn, 1) := by decide +kernel
theorem dM_statement_104 : decode cM_statement 104 = .ok (.iload_n 1, 1) := by decide +kernel
theorem dM_statement_105 : decode cM_statement 105 = .ok (.ifCond .ne 5, 3) := by decide +kernel
theorem dM_statement_108 : decode cM_statement 108 = .ok (.iconst 1, 1) := by decide +kernel
theorem dM_statement_109 : decode cM_statement 109 = .ok (.ireturn, 1) := by decide +kernel
theorem dM_statement_110 : decode cM_statement 110 = .ok (.aload_n 0, 1) := by decide +kernel
theorem dM_statement_111 : decode cM_statement 111 = .ok (.getfield 49, 3) := by decide +kernel
theorem dM_statement_114 : decode cM_statement 114 = .ok (.iconst 0, 1) := by decide +kernel
theorem dM_statement_115 : decode cM_statement 115 = .ok (.iaload, 1) := by decide +kernel
theorem dM_statement_116 : decode cM_statement 116 = .ok (.iconst 5, 1) := by decide +kernel
theorem dM_statement_117 : decode cM_statement 117 = .ok (.if_icmp .le 5, 3) := by decide +kernel
theorem dM_statement_120 : decode cM_statement 120 = .ok (.iconst 0, 1) := by decide +kernel
theorem dM_statement_121 : decode cM_statement 121 = .ok (.ireturn, 1) := by decide +kernel
theorem dM_statement_122 : decode cM_statement 122 = .ok (.aload_n 0, 1) := by decide +kernel
theorem dM_statement_123 : decode cM_statement 123 = .ok (.getfield 13, 3) := by decide +kernel
theorem dM_statement_126 : decode cM_statement 126 = .ok (.aload_n 0, 1) := by decide +kernel
theorem dM_statement_127 : decode cM_statement 127 = .ok (.getfield 49, 3) := by decide +kernel
theorem dM_statement_130 : decode cM_statement 130 = .ok (.iconst 0, 1) := by decide +kernel
theorem dM_statement_131 : decode cM_statement 131 = .ok (.iaload, 1) := by decide +kernel
theorem dM_statement_132 : decode cM_statement 132 = .ok (.aload_n 0, 1) := by decide +kernel
theorem dM_statement_133 : decode cM_statement 133 = .ok (.getfield 49, 3) := by decide +kernel
theorem dM_statement_136 : decode cM_statement 136 = .ok (.iconst 1, 1) := by decide +kernel
theorem dM_statement_137 : decode cM_statement 137 = .ok (.iaload, 1) := by decide +kernel
theorem dM_statement_138 : decode cM_statement 138 = .ok (.iastore, 1) := by decide +kernel
theorem dM_statement_139 : decode cM_statement 139 = .ok (.iconst 1, 1) := by decide +kernel
theorem dM_statement_140 : decode cM_statement 140 = .ok (.ireturn, 1) := by decide +kernel
theorem dM_statement_141 : decode cM_statement 141 = .ok (.aload_n 0, 1) := by decide +kernel
theorem dM_statement_142 : decode cM_statement 142 = .ok (.bipush 108, 2) := by decide +kernel
theorem dM_statement_144 : decode cM_statement 144 = .ok (.invokevirtual 107, 3) := by decide +kernel
theorem dM_statement_147 : decode cM_statement 147 = .ok (.ifCond .eq 120, 3) := by decide +kernel
theorem dM_statement_150 : decode cM_statement 150 = .ok (.iconst 0, 1) := by decide +kernel
theorem dM_statement_151 : decode cM_statement 151 = .ok (.istore_n 2, 1) := by decide +kernel
theorem dM_statement_152 : decode cM_statement 152 = .ok (.iload_n 2, 1) := by decide +kernel
theorem dM_statement_153 : decode cM_statement 153 = .ok (.iconst 4, 1) := by decide +kernel
theorem dM_statement_154 : decode cM_statement 154 = .ok (.if_icmp .ge 20, 3) := by decide +kernel
theorem dM_statement_157 : decode cM_statement 157 = .ok (.aload_n 0, 1) := by decide +kernel
theorem dM_statement_158 : decode cM_statement 158 = .ok (.iload_n 2, 1) := by decide +kernel
theorem dM_statement_159 : decode cM_statement 159 = .ok (.iconst 1, 1) := by decide +kernel
theorem dM_statement_160 : decode cM_statement 160 = .ok (.invokevirtual 111, 3) := by decide +kernel
theorem dM_statement_163 : decode cM_statement 163 = .ok (.ifCond .ne 5, 3) := by decide +kernel
theorem dM_statement_166 : decode cM_statement 166 = .ok (.iconst (-1), 1) := by decide +kernel
theorem dM_statement_167 : decode cM_statement 167 = .ok (.ireturn, 1) := by decide +kernel
theorem dM_statement_168 : decode cM_statement 168 = .ok (.iinc 2 1, 3) := by decide +kernel
theorem dM_statement_171 : decode cM_statement 171 = .ok (.goto (-19), 3) := by decide +kernel
theorem dM_statement_174 : decode cM_statement 174 = .ok (.iload_n 1, 1) := by decide +kernel
theorem dM_statement_175 : decode cM_statement 175 = .ok (.ifCond .ne 5, 3) := by decide +kernel
theorem dM_statement_178 : decode cM_statement 178 = .ok (.iconst 1, 1) := by decide +kernel
theorem dM_statement_179 : decode cM_statement 179 = .ok (.ireturn, 1) := by decide +kernel
theorem dM_statement_180 : decode cM_statement 180 = .ok (.aload_n 0, 1) := by decide +kernel
theorem dM_statement_181 : decode cM_statement 181 = .ok (.getfield 49, 3) := by decide +kernel
theorem dM_statement_184 : decode cM_statement 184 = .ok (.iconst 0, 1) := by decide +kernel
theorem dM_statement_185 : decode cM_statement 185 = .ok (.iaload, 1) := by decide +kernel
theorem dM_statement_186 : decode cM_statement 186 = .ok (.bipush 6, 2) := by decide +kernel
theorem dM_statement_188 : decode cM_statement 188 = .ok (.if_icmp .gt 47, 3) := by decide +kernel
theorem dM_statement_191 : decode cM_statement 191 = .ok (.aload_n 0, 1) := by decide +kernel
theorem dM_statement_192 : decode cM_statement 192 = .ok (.getfield 49, 3) := by decide +kernel
theorem dM_statement_195 : decode cM_statement 195 = .ok (.iconst 1, 1) := by decide +kernel
theorem dM_statement_196 : decode cM_statement 196 = .ok (.iaload, 1) := by decide +kernel
theorem dM_statement_197 : decode cM_statement 197 = .ok (.bipush 6, 2) := by decide +kernel
theorem dM_statement_199 : decode cM_statement 199 = .ok (.if_icmp .gt 36, 3) := by decide +kernel
theorem dM_statement_202 : decode cM_statement 202 = .ok (.aload_n 0, 1) := by decide +kernel
theorem dM_statement_203 : decode cM_statement 203 = .ok (.getfield 49, 3) := by decide +kernel
theorem dM_statement_206 : decode cM_statement 206 = .ok (.iconst 0, 1) := by decide +kernel
theorem dM_statement_207 : decode cM_statement 207 = .ok (.iaload, 1) := by decide +kernel
theorem dM_statement_208 : decode cM_statement 208 = .ok (.aload_n 0, 1) := by decide +kernel
theorem dM_statement_209 : decode cM_statement 209 = .ok (.getfield 49, 3) := by decide +kernel
theorem dM_statement_212 : decode cM_statement 212 = .ok (.iconst 1, 1) := by decide +kernel
theorem dM_statement_213 : decode cM_statement 213 = .ok (.iaload, 1) := by decide +kernel
theorem dM_statement_214 : decode cM_statement 214 = .ok (.if_icmp .eq 21, 3) := by decide +kernel
theorem dM_statement_217 : decode cM_statement 217 = .ok (.aload_n 0, 1) := by decide +kernel
theorem dM_statement_218 : decode cM_statement 218 = .ok (.getfield 49, 3) := by decide +kernel
theorem dM_statement_221 : decode cM_statement 221 = .ok (.iconst 3, 1) := by decide +kernel
theorem dM_statement_222 : decode cM_statement 222 = .ok (.iaload, 1) := by decide +kernel
theorem dM_statement_223 : decode cM_statement 223 = .ok (.ifCond .eq 12, 3) := by decide +kernel
theorem dM_statement_226 : decode cM_statement 226 = .ok (.aload_n 0, 1) := by decide +kernel
theorem dM_statement_227 : decode cM_statement 227 = .ok (.getfield 77, 3) := by decide +kernel
theorem dM_statement_230 : decode cM_statement 230 = .ok (.bipush 7, 2) := by decide +kernel
theorem dM_statement_232 : decode cM_statement 232 = .ok (.if_icmp .ne 5, 3) := by decide +kernel
theorem dM_statement_235 : decode cM_statement 235 = .ok (.iconst 0, 1) := by decide +kernel
theorem dM_statement_236 : decode cM_statement 236 = .ok (.ireturn, 1) := by decide +kernel
theorem dM_statement_237 : decode cM_statement 237 = .ok (.aload_n 0, 1) := by decide +kernel
theorem dM_statement_238 : decode cM_statement 238 = .ok (.aload_n 0, 1) := by decide +kernel
theorem dM_statement_239 : decode cM_statement 239 = .ok (.getfield 49, 3) := by decide +kernel
theorem dM_statement_242 : decode cM_statement 242 = .ok (.iconst 0, 1) := by decide +kernel
theorem dM_statement_243 : decode cM_statement 243 = .ok (.iaload, 1) := by decide +kernel
theorem dM_statement_244 : decode cM_statement 244 = .ok (.aload_n 0, 1) := by decide +kernel
theorem dM_statement_245 : decode cM_statement 245 = .ok (.getfield 49, 3) := by decide +kernel
theorem dM_statement_248 : decode cM_statement 248 = .ok (.iconst 1, 1) := by decide +kernel
theorem dM_statement_249 : decode cM_statement 249 = .ok (.iaload, 1) := by decide +kernel
theorem dM_statement_250 : decode cM_statement 250 = .ok (.aload_n 0, 1) := by decide +kernel
theorem dM_statement_251 : decode cM_statement 251 = .ok (.getfield 49, 3) := by decide +kernel
theorem dM_statement_254 : decode cM_statement 254 = .ok (.iconst 2, 1) := by decide +kernel
theorem dM_statement_255 : decode cM_statement 255 = .ok (.iaload, 1) := by decide +kernel
theorem dM_statement_256 : decode cM_statement 256 = .ok (.aload_n 0, 1) := by decide +kernel
theorem dM_statement_257 : decode cM_statement 257 = .ok (.getfield 49, 3) := by decide +kernel
theorem dM_statement_260 : decode cM_statement 260 = .ok (.iconst 3, 1) := by decide +kernel
theorem dM_statement_261 : decode cM_statement 261 = .ok (.iaload, 1) := by decide +kernel
theorem dM_statement_262 : decode cM_statement 262 = .ok (.invokevirtual 115, 3) := by decide +kernel
theorem dM_statement_265 : decode cM_statement 265 = .ok (.iconst 1, 1) := by decide +kernel
theorem dM_statement_266 : decode cM_statement 266 = .ok (.ireturn, 1) := by decide +kernel
theorem dM_statement_267 : decode cM_statement 267 = .ok (.aload_n 0, 1) := by decide +kernel
theorem dM_statement_268 : decode cM_statement 268 = .ok (.bipush 112, 2) := by decide +kernel
theorem dM_statement_270 : decode cM_statement 270 = .ok (.invokevirtual 107, 3) := by decide +kernel
theorem dM_statement_273 : decode cM_statement 273 = .ok (.ifCond .eq 204, 3) := by decide +kernel
theorem dM_statement_276 : decode cM_statement 276 = .ok (.aload_n 0, 1) := by decide +kernel
theorem dM_statement_277 : decode cM_statement 277 = .ok (.getfield 91, 3) := by decide +kernel
theorem dM_statement_280 : decode cM_statement 280 = .ok (.aload_n 0, 1) := by decide +kernel
theorem dM_statement_281 : decode cM_statement 281 = .ok (.getfield 88, 3) := by decide +kernel
theorem dM_statement_284 : decode cM_statement 284 = .ok (.if_icmp .ge 32, 3) := by decide +kernel
theorem dM_statement_287 : decode cM_statement 287 = .ok (.aload_n 0, 1) := by decide +kernel
theorem dM_statement_288 : decode cM_statement 288 = .ok (.getfield 46, 3) := by decide +kernel
theorem dM_statement_291 : decode cM_statement 291 = .ok (.aload_n 0, 1) := by decide +kernel
theorem dM_statement_292 : decode cM_statement 292 = .ok (.getfield 91, 3) := by decide +kernel
theorem dM_statement_295 : decode cM_statement 295 = .ok (.iaload, 1) := by decide +kernel
theorem dM_statement_296 : decode cM_statement 296 = .ok (.ifCond .le 20, 3) := by decide +kernel
theorem dM_statement_299 : decode cM_statement 299 = .ok (.ldc 119, 2) := by decide +kernel
theorem dM_statement_301 : decode cM_statement 301 = .ok (.aload_n 0, 1) := by decide +kernel
theorem dM_statement_302 : decode cM_statement 302 = .ok (.getfield 46, 3) := by decide +kernel
theorem dM_statement_305 : decode cM_statement 305 = .ok (.aload_n 0, 1) := by decide +kernel
theorem dM_statement_306 : decode cM_statement 306 = .ok (.getfield 91, 3) := by decide +kernel
theorem dM_statement_309 : decode cM_statement 309 = .ok (.iaload, 1) := by decide +kernel
theorem dM_statement_310 : decode cM_statement 310 = .ok (.invokevirtual 121, 3) := by decide +kernel
theorem dM_statement_313 : decode cM_statement 313 = .ok (.goto 4, 3) := by decide +kernel
theorem dM_statement_316 : decode cM_statement 316 = .ok (.iconst (-1), 1) := by decide +kernel
theorem dM_statement_317 : decode cM_statement 317 = .ok (.istore_n 2, 1) := by decide +kernel
theorem dM_statement_318 : decode cM_statement 318 = .ok (.iload_n 2, 1) := by decide +kernel
theorem dM_statement_319 : decode cM_statement 319 = .ok (.ifCond .ge 5, 3) := by decide +kernel
theorem dM_statement_322 : decode cM_statement 322 = .ok (.iconst (-1), 1) := by decide +kernel
theorem dM_statement_323 : decode cM_statement 323 = .ok (.ireturn, 1) := by decide +kernel
theorem dM_statement_324 : decode cM_statement 324 = .ok (.aload_n 0, 1) := by decide +kernel
theorem dM_statement_325 : decode cM_statement 325 = .ok (.dup, 1) := by decide +kernel
theorem dM_statement_326 : decode cM_statement 326 = .ok (.getfield 91, 3) := by decide +kernel
theorem dM_statement_329 : decode cM_statement 329 = .ok (.iconst 1, 1) := by decide +kernel
theorem dM_statement_330 : decode cM_statement 330 = .ok (.iadd, 1) := by decide +kernel
theorem dM_statement_331 : decode cM_statement 331 = .ok (.putfield 91, 3) := by decide +kernel
theorem dM_statement_334 : decode cM_statement 334 = .ok (.aload_n 0, 1) := by decide +kernel
theorem dM_statement_335 : decode cM_statement 335 = .ok (.iconst 0, 1) := by decide +kernel
theorem dM_statement_336 : decode cM_statement 336 = .ok (.iconst 1, 1) := by decide +kernel
theorem dM_statement_337 : decode cM_statement 337 = .ok (.invokevirtual 111, 3) := by decide +kernel
theorem dM_statement_340 : decode cM_statement 340 = .ok (.ifCond .eq 30, 3) := by decide +kernel
theorem dM_statement_343 : decode cM_statement 343 = .ok (.aload_n 0, 1) := by decide +kernel
theorem dM_statement_344 : decode cM_statement 344 = .ok (.iconst 1, 1) := by decide +kernel
theorem dM_statement_345 : decode cM_statement 345 = .ok (.iconst 1, 1) := by decide +kernel
theorem dM_statement_346 : decode cM_statement 346 = .ok (.invokevirtual 111, 3) := by decide +kernel
theorem dM_statement_349 : decode cM_statement 349 = .ok (.ifCond .eq 21, 3) := by decide +kernel
theorem dM_statement_352 : decode cM_statement 352 = .ok (.aload_n 0, 1) := by decide +kernel
theorem dM_statement_353 : decode cM_statement 353 = .ok (.bipush 44, 2) := by decide +kernel
theorem dM_statement_355 : decode cM_statement 355 = .ok (.invokevirtual 107, 3) := by decide +kernel
theorem dM_statement_358 : decode cM_statement 358 = .ok (.ifCond .eq 12, 3) := by decide +kernel
theorem dM_statement_361 : decode cM_statement 361 = .ok (.aload_n 0, 1) := by decide +kernel
theorem dM_statement_362 : decode cM_statement 362 = .ok (.iconst 2, 1) := by decide +kernel
theorem dM_statement_363 : decode cM_statement 363 = .ok (.iconst 2, 1) := by decide +kernel
theorem dM_statement_364 : decode cM_statement 364 = .ok (.invokevirtual 111, 3) := by decide +kernel
theorem dM_statement_367 : decode cM_statement 367 = .ok (.ifCond .ne 5, 3) := by decide +kernel
theorem dM_statement_370 : decode cM_statement 370 = .ok (.iconst (-1), 1) := by decide +kernel
theorem dM_statement_371 : decode cM_statement 371 = .ok (.ireturn, 1) := by decide +kernel
theorem dM_statement_372 : decode cM_statement 372 = .ok (.iload_n 1, 1) := by decide +kernel
theorem dM_statement_373 : decode cM_statement 373 = .ok (.ifCond .ne 5, 3) := by decide +kernel
theorem dM_statement_376 : decode cM_statement 376 = .ok (.iconst 1, 1) := by decide +kernel
theorem dM_statement_377 : decode cM_statement 377 = .ok (.ireturn, 1) := by decide +kernel
theorem dM_statement_378 : decode cM_statement 378 = .ok (.aload_n 0, 1) := by decide +kernel
theorem dM_statement_379 : decode cM_statement 379 = .ok (.getfield 49, 3) := by decide +kernel
theorem dM_statement_382 : decode cM_statement 382 = .ok (.iconst 0, 1) := by decide +kernel
theorem dM_statement_383 : decode cM_statement 383 = .ok (.iaload, 1) := by decide +kernel
theorem dM_statement_384 : decode cM_statement 384 = .ok (.bipush 6, 2) := by decide +kernel
theorem dM_statement_386 : decode cM_statement 386 = .ok (.if_icmp .gt 25, 3) := by decide +kernel
theorem dM_statement_389 : decode cM_statement 389 = .ok (.aload_n 0, 1) := by decide +kernel
theorem dM_statement_390 : decode cM_statement 390 = .ok (.getfield 49, 3) := by decide +kernel
theorem dM_statement_393 : decode cM_statement 393 = .ok (.iconst 1, 1) := by decide +kernel
theorem dM_statement_394 : decode cM_statement 394 = .ok (.iaload, 1) := by decide +kernel
theorem dM_statement_395 : decode cM_statement 395 = .ok (.iconst 1, 1) := by decide +kernel
theorem dM_statement_396 : decode cM_statement 396 = .ok (.iconst 5, 1) := by decide +kernel
theorem dM_statement_397 : decode cM_statement 397 = .ok (.invokestatic 73, 3) := by decide +kernel
theorem dM_statement_400 : decode cM_statement 400 = .ok (.ifCond .eq 11, 3) := by decide +kernel
theorem dM_statement_403 : decode cM_statement 403 = .ok (.aload_n 0, 1) := by decide +kernel
theorem dM_statement_404 : decode cM_statement 404 = .ok (.getfield 81, 3) := by decide +kernel
theorem dM_statement_407 : decode cM_statement 407 = .ok (.iconst 5, 1) := by decide +kernel
theorem dM_statement_408 : decode cM_statement 408 = .ok (.if_icmp .ne 5, 3) := by decide +kernel
theorem dM_statement_411 : decode cM_statement 411 = .ok (.iconst 0, 1) := by decide +kernel
theorem dM_statement_412 : decode cM_statement 412 = .ok (.ireturn, 1) := by decide +kernel
theorem dM_statement_413 : decode cM_statement 413 = .ok (.aload_n 0, 1) := by decide +kernel
theorem dM_statement_414 : decode cM_statement 414 = .ok (.getfield 31, 3) := by decide +kernel
theorem dM_statement_417 : decode cM_statement 417 = .ok (.aload_n 0, 1) := by decide +kernel
theorem dM_statement_418 : decode cM_statement 418 = .ok (.getfield 81, 3) := by decide +kernel
theorem dM_statement_421 : decode cM_statement 421 = .ok (.iload_n 2, 1) := by decide +kernel
theorem dM_statement_422 : decode cM_statement 422 = .ok (.iastore, 1) := by decide +kernel
theorem dM_statement_423 : decode cM_statement 423 = .ok (.aload_n 0, 1) := by decide +kernel
theorem dM_statement_424 : decode cM_statement 424 = .ok (.getfield 34, 3) := by decide +kernel
theorem dM_statement_427 : decode cM_statement 427 = .ok (.aload_n 0, 1) := by decide +kernel
theorem dM_statement_428 : decode cM_statement 428 = .ok (.getfield 81, 3) := by decide +kernel
theorem dM_statement_431 : decode cM_statement 431 = .ok (.aload_n 0, 1) := by decide +kernel
theorem dM_statement_432 : decode cM_statement 432 = .ok (.getfield 49, 3) := by decide +kernel
theorem dM_statement_435 : decode cM_statement 435 = .ok (.iconst 0, 1) := by decide +kernel
theorem dM_statement_436 : decode cM_statement 436 = .ok (.iaload, 1) := by decide +kernel
theorem dM_statement_437 : decode cM_statement 437 = .ok (.iastore, 1) := by decide +kernel
theorem dM_statement_438 : decode cM_statement 438 = .ok (.aload_n 0, 1) := by decide +kernel
theorem dM_statement_439 : decode cM_statement 439 = .ok (.getfield 37, 3) := by decide +kernel
theorem dM_statement_442 : decode cM_statement 442 = .ok (.aload_n 0, 1) := by decide +kernel
theorem dM_statement_443 : decode cM_statement 443 = .ok (.getfield 81, 3) := by decide +kernel
theorem dM_statement_446 : decode cM_statement 446 = .ok (.aload_n 0, 1) := by decide +kernel
theorem dM_statement_447 : decode cM_statement 447 = .ok (.getfield 49, 3) := by decide +kernel
theorem dM_statement_450 : decode cM_statement 450 = .ok (.iconst 1, 1) := by decide +kernel
theorem dM_statement_451 : decode cM_statement 451 = .ok (.iaload, 1) := by decide +kernel
theorem dM_statement_452 : decode cM_statement 452 = .ok (.iastore, 1) := by decide +kernel
theorem dM_statement_453 : decode cM_statement 453 = .ok (.aload_n 0, 1) := by decide +kernel
theorem dM_statement_454 : decode cM_statement 454 = .ok (.getfield 40, 3) := by decide +kernel
theorem dM_statement_457 : decode cM_statement 457 = .ok (.aload_n 0, 1) := by decide +kernel
theorem dM_statement_458 : decode cM_statement 458 = .ok (.dup, 1) := by decide +kernel
theorem dM_statement_459 : decode cM_statement 459 = .ok (.getfield 81, 3) := by decide +kernel
theorem dM_statement_462 : decode cM_statement 462 = .ok (.dup_x1, 1) := by decide +kernel
theorem dM_statement_463 : decode cM_statement 463 = .ok (.iconst 1, 1) := by decide +kernel
theorem dM_statement_464 : decode cM_statement 464 = .ok (.iadd, 1) := by decide +kernel
theorem dM_statement_465 : decode cM_statement 465 = .ok (.putfield 81, 3) := by decide +kernel
theorem dM_statement_468 : decode cM_statement 468 = .ok (.aload_n 0, 1) := by decide +kernel
theorem dM_statement_469 : decode cM_statement 469 = .ok (.getfield 49, 3) := by decide +kernel
theorem dM_statement_472 : decode cM_statement 472 = .ok (.iconst 2, 1) := by decide +kernel
theorem dM_statement_473 : decode cM_statement 473 = .ok (.iaload, 1) := by decide +kernel
theorem dM_statement_474 : decode cM_statement 474 = .ok (.iastore, 1) := by decide +kernel
theorem dM_statement_475 : decode cM_statement 475 = .ok (.iconst 1, 1) := by decide +kernel
theorem dM_statement_476 : decode cM_statement 476 = .ok (.ireturn, 1) := by decide +kernel
theorem dM_statement_477 : decode cM_statement 477 = .ok (.aload_n 0, 1) := by decide +kernel
theorem dM_statement_478 : decode cM_statement 478 = .ok (.bipush 115, 2) := by decide +kernel
theorem dM_statement_480 : decode cM_statement 480 = .ok (.invokevirtual 107, 3) := by decide +kernel
theorem dM_statement_483 : decode cM_statement 483 = .ok (.ifCond .eq 21, 3) := by decide +kernel
theorem dM_statement_486 : decode cM_statement 486 = .ok (.aload_n 0, 1) := by decide +kernel
theorem dM_statement_487 : decode cM_statement 487 = .ok (.iconst 0, 1) := by decide +kernel
theorem dM_statement_488 : decode cM_statement 488 = .ok (.iconst 1, 1) := by decide +kernel
theorem dM_statement_489 : decode cM_statement 489 = .ok (.invokevirtual 111, 3) := by decide +kernel
theorem dM_statement_492 : decode cM_statement 492 = .ok (.ifCond .eq 12, 3) := by decide +kernel
theorem dM_statement_495 : decode cM_statement 495 = .ok (.aload_n 0, 1) := by decide +kernel
theorem dM_statement_496 : decode cM_statement 496 = .ok (.iconst 1, 1) := by decide +kernel
theorem dM_statement_497 : decode cM_statement 497 = .ok (.iconst 1, 1) := by decide +kernel
theorem dM_statement_498 : decode cM_statement 498 = .ok (.invokevirtual 111, 3) := by decide +kernel
theorem dM_statement_501 : decode cM_statement 501 = .ok (.ifCond .ne 5, 3) := by decide +kernel
theorem dM_statement_504 : decode cM_statement 504 = .ok (.iconst (-1), 1) := by decide +kernel
theorem dM_statement_505 : decode cM_statement 505 = .ok (.ireturn, 1) := by decide +kernel
theorem dM_statement_506 : decode cM_statement 506 = .ok (.iload_n 1, 1) := by decide +kernel
theorem dM_statement_507 : decode cM_statement 507 = .ok (.ifCond .ne 5, 3) := by decide +kernel
theorem dM_statement_510 : decode cM_statement 510 = .ok (.iconst 1, 1) := by decide +kernel
theorem dM_statement_511 : decode cM_statement 511 = .ok (.ireturn, 1) := by decide +kernel
theorem dM_statement_512 : decode cM_statement 512 = .ok (.aload_n 0, 1) := by decide +kernel
theorem dM_statement_513 : decode cM_statement 513 = .ok (.getfield 49, 3) := by decide +kernel
theorem dM_statement_516 : decode cM_statement 516 = .ok (.iconst 0, 1) := by decide +kernel
theorem dM_statement_517 : decode cM_statement 517 = .ok (.iaload, 1) := by decide +kernel
theorem dM_statement_518 : decode cM_statement 518 = .ok (.iconst 1, 1) := by decide +kernel
theorem dM_statement_519 : decode cM_statement 519 = .ok (.iconst 5, 1) := by decide +kernel
theorem dM_statement_520 : decode cM_statement 520 = .ok (.invokestatic 73, 3) := by decide +kernel
theorem dM_statement_523 : decode cM_statement 523 = .ok (.ifCond .eq 13, 3) := by decide +kernel
theorem dM_statement_526 : decode cM_statement 526 = .ok (.aload_n 0, 1) := by decide +kernel
theorem dM_statement_527 : decode cM_statement 527 = .ok (.getfield 49, 3) := by decide +kernel
theorem dM_statement_530 : decode cM_statement 530 = .ok (.iconst 1, 1) := by decide +kernel
theorem dM_statement_531 : decode cM_statement 531 = .ok (.iaload, 1) := by decide +kernel
theorem dM_statement_532 : decode cM_statement 532 = .ok (.iconst 5, 1) := by decide +kernel
theorem dM_statement_533 : decode cM_statement 533 = .ok (.if_icmp .le 5, 3) := by decide +kernel
theorem dM_statement_536 : decode cM_statement 536 = .ok (.iconst 0, 1) := by decide +kernel
theorem dM_statement_537 : decode cM_statement 537 = .ok (.ireturn, 1) := by decide +kernel
theorem dM_statement_538 : decode cM_statement 538 = .ok (.aload_n 0, 1) := by decide +kernel
theorem dM_statement_539 : decode cM_statement 539 = .ok (.getfield 43, 3) := by decide +kernel
theorem dM_statement_542 : decode cM_statement 542 = .ok (.aload_n 0, 1) := by decide +kernel
theorem dM_statement_543 : decode cM_statement 543 = .ok (.getfield 49, 3) := by decide +kernel
theorem dM_statement_546 : decode cM_statement 546 = .ok (.iconst 0, 1) := by decide +kernel
theorem dM_statement_547 : decode cM_statement 547 = .ok (.iaload, 1) := by decide +kernel
theorem dM_statement_548 : decode cM_statement 548 = .ok (.aload_n 0, 1) := by decide +kernel
theorem dM_statement_549 : decode cM_statement 549 = .ok (.getfield 49, 3) := by decide +kernel
theorem dM_statement_552 : decode cM_statement 552 = .ok (.iconst 1, 1) := by decide +kernel
theorem dM_statement_553 : decode cM_statement 553 = .ok (.iaload, 1) := by decide +kernel
theorem dM_statement_554 : decode cM_statement 554 = .ok (.iastore, 1) := by decide +kernel
theorem dM_statement_555 : decode cM_statement 555 = .ok (.iconst 1, 1) := by decide +kernel
theorem dM_statement_556 : decode cM_statement 556 = .ok (.ireturn, 1) := by decide +kernel
theorem dM_there_0 : decode cM_there 0 = .ok (.iconst 0, 1) := by decide +kernel
theorem dM_there_1 : decode cM_there 1 = .ok (.istore_n 2, 1) := by decide +kernel
theorem dM_there_2 : decode cM_there 2 = .ok (.iconst 0, 1) := by decide +kernel
theorem dM_there_3 : decode cM_there 3 = .ok (.istore_n 3, 1) := by decide +kernel
theorem dM_there_4 : decode cM_there 4 = .ok (.iload_n 3, 1) := by decide +kernel
theorem dM_there_5 : decode cM_there 5 = .ok (.aload_n 0, 1) := by decide +kernel
theorem dM_there_6 : decode cM_there 6 = .ok (.getfield 81, 3) := by decide +kernel
theorem dM_there_9 : decode cM_there 9 = .ok (.if_icmp .ge 22, 3) := by decide +kernel
theorem dM_there_12 : decode cM_there 12 = .ok (.aload_n 0, 1) := by decide +kernel
theorem dM_there_13 : decode cM_there 13 = .ok (.getfield 34, 3) := by decide +kernel
theorem dM_there_16 : decode cM_there 16 = .ok (.iload_n 3, 1) := by decide +kernel
theorem dM_there_17 : decode cM_there 17 = .ok (.iaload, 1) := by decide +kernel
theorem dM_there_18 : decode cM_there 18 = .ok (.iload_n 1, 1) := by decide +kernel
theorem dM_there_19 : decode cM_there 19 = .ok (.if_icmp .ne 6, 3) := by decide +kernel
theorem dM_there_22 : decode cM_there 22 = .ok (.iinc 2 1, 3) := by decide +kernel
theorem dM_there_25 : decode cM_there 25 = .ok (.iinc 3 1, 3) := by decide +kernel
theorem dM_there_28 : decode cM_there 28 = .ok (.goto (-24), 3) := by decide +kernel
theorem dM_there_31 : decode cM_there 31 = .ok (.iload_n 2, 1) := by decide +kernel
theorem dM_there_32 : decode cM_there 32 = .ok (.ireturn, 1) := by decide +kernel
theorem dM_walk_0 : decode cM_walk 0 = .ok (.iconst 0, 1) := by decide +kernel
theorem dM_walk_1 : decode cM_walk 1 = .ok (.istore_n 2, 1) := by decide +kernel
theorem dM_walk_2 : decode cM_walk 2 = .ok (.iload_n 2, 1) := by decide +kernel
theorem dM_walk_3 : decode cM_walk 3 = .ok (.bipush 7, 2) := by decide +kernel
theorem dM_walk_5 : decode cM_walk 5 = .ok (.if_icmp .ge 27, 3) := by decide +kernel
theorem dM_walk_8 : decode cM_walk 8 = .ok (.aload_n 0, 1) := by decide +kernel
theorem dM_walk_9 : decode cM_walk 9 = .ok (.getfield 64, 3) := by decide +kernel
theorem dM_walk_12 : decode cM_walk 12 = .ok (.iload_n 2, 1) := by decide +kernel
theorem dM_walk_13 : decode cM_walk 13 = .ok (.iload_n 2, 1) := by decide +kernel
theorem dM_walk_14 : decode cM_walk 14 = .ok (.iload_n 1, 1) := by decide +kernel
theorem dM_walk_15 : decode cM_walk 15 = .ok (.if_icmp .ne 7, 3) := by decide +kernel
theorem dM_walk_18 : decode cM_walk 18 = .ok (.iconst 0, 1) := by decide +kernel
theorem dM_walk_19 : decode cM_walk 19 = .ok (.goto 6, 3) := by decide +kernel
theorem dM_walk_22 : decode cM_walk 22 = .ok (.sipush 10000, 3) := by decide +kernel
theorem dM_walk_25 : decode cM_walk 25 = .ok (.iastore, 1) := by decide +kernel
theorem dM_walk_26 : decode cM_walk 26 = .ok (.iinc 2 1, 3) := by decide +kernel
theorem dM_walk_29 : decode cM_walk 29 = .ok (.goto (-27), 3) := by decide +kernel
theorem dM_walk_32 : decode cM_walk 32 = .ok (.iconst 0, 1) := by decide +kernel
theorem dM_walk_33 : decode cM_walk 33 = .ok (.istore_n 2, 1) := by decide +kernel
theorem dM_walk_34 : decode cM_walk 34 = .ok (.iload_n 2, 1) := by decide +kernel
theorem dM_walk_35 : decode cM_walk 35 = .ok (.bipush 7, 2) := by decide +kernel
theorem dM_walk_37 : decode cM_walk 37 = .ok (.if_icmp .ge 111, 3) := by decide +kernel
theorem dM_walk_40 : decode cM_walk 40 = .ok (.iconst 0, 1) := by decide +kernel
theorem dM_walk_41 : decode cM_walk 41 = .ok (.istore_n 3, 1) := by decide +kernel
theorem dM_walk_42 : decode cM_walk 42 = .ok (.iload_n 3, 1) := by decide +kernel
theorem dM_walk_43 : decode cM_walk 43 = .ok (.aload_n 0, 1) := by decide +kernel
theorem dM_walk_44 : decode cM_walk 44 = .ok (.getfield 77, 3) := by decide +kernel
theorem dM_walk_47 : decode cM_walk 47 = .ok (.if_icmp .ge 95, 3) := by decide +kernel
theorem dM_walk_50 : decode cM_walk 50 = .ok (.aload_n 0, 1) := by decide +kernel
theorem dM_walk_51 : decode cM_walk 51 = .ok (.getfield 64, 3) := by decide +kernel
theorem dM_walk_54 : decode cM_walk 54 = .ok (.aload_n 0, 1) := by decide +kernel
theorem dM_walk_55 : decode cM_walk 55 = .ok (.getfield 16, 3) := by decide +kernel
theorem dM_walk_58 : decode cM_walk 58 = .ok (.iload_n 3, 1) := by decide +kernel
theorem dM_walk_59 : decode cM_walk 59 = .ok (.iaload, 1) := by decide +kernel
theorem dM_walk_60 : decode cM_walk 60 = .ok (.aload_n 0, 1) := by decide +kernel
theorem dM_walk_61 : decode cM_walk 61 = .ok (.getfield 64, 3) := by decide +kernel
theorem dM_walk_64 : decode cM_walk 64 = .ok (.aload_n 0, 1) := by decide +kernel
theorem dM_walk_65 : decode cM_walk 65 = .ok (.getfield 16, 3) := by decide +kernel
theorem dM_walk_68 : decode cM_walk 68 = .ok (.iload_n 3, 1) := by decide +kernel
theorem dM_walk_69 : decode cM_walk 69 = .ok (.iaload, 1) := by decide +kernel
theorem dM_walk_70 : decode cM_walk 70 = .ok (.iaload, 1) := by decide +kernel
theorem dM_walk_71 : decode cM_walk 71 = .ok (.aload_n 0, 1) := by decide +kernel
theorem dM_walk_72 : decode cM_walk 72 = .ok (.getfield 64, 3) := by decide +kernel
theorem dM_walk_75 : decode cM_walk 75 = .ok (.aload_n 0, 1) := by decide +kernel
theorem dM_walk_76 : decode cM_walk 76 = .ok (.getfield 19, 3) := by decide +kernel
theorem dM_walk_79 : decode cM_walk 79 = .ok (.iload_n 3, 1) := by decide +kernel
theorem dM_walk_80 : decode cM_walk 80 = .ok (.iaload, 1) := by decide +kernel
theorem dM_walk_81 : decode cM_walk 81 = .ok (.iaload, 1) := by decide +kernel
theorem dM_walk_82 : decode cM_walk 82 = .ok (.aload_n 0, 1) := by decide +kernel
theorem dM_walk_83 : decode cM_walk 83 = .ok (.getfield 25, 3) := by decide +kernel
theorem dM_walk_86 : decode cM_walk 86 = .ok (.iload_n 3, 1) := by decide +kernel
theorem dM_walk_87 : decode cM_walk 87 = .ok (.iaload, 1) := by decide +kernel
theorem dM_walk_88 : decode cM_walk 88 = .ok (.iadd, 1) := by decide +kernel
theorem dM_walk_89 : decode cM_walk 89 = .ok (.invokestatic 98, 3) := by decide +kernel
theorem dM_walk_92 : decode cM_walk 92 = .ok (.iastore, 1) := by decide +kernel
theorem dM_walk_93 : decode cM_walk 93 = .ok (.aload_n 0, 1) := by decide +kernel
theorem dM_walk_94 : decode cM_walk 94 = .ok (.getfield 64, 3) := by decide +kernel
theorem dM_walk_97 : decode cM_walk 97 = .ok (.aload_n 0, 1) := by decide +kernel
theorem dM_walk_98 : decode cM_walk 98 = .ok (.getfield 19, 3) := by decide +kernel
theorem dM_walk_101 : decode cM_walk 101 = .ok (.iload_n 3, 1) := by decide +kernel
theorem dM_walk_102 : decode cM_walk 102 = .ok (.iaload, 1) := by decide +kernel
theorem dM_walk_103 : decode cM_walk 103 = .ok (.aload_n 0, 1) := by decide +kernel
theorem dM_walk_104 : decode cM_walk 104 = .ok (.getfield 64, 3) := by decide +kernel
theorem dM_walk_107 : decode cM_walk 107 = .ok (.aload_n 0, 1) := by decide +kernel
theorem dM_walk_108 : decode cM_walk 108 = .ok (.getfield 19, 3) := by decide +kernel
theorem dM_walk_111 : decode cM_walk 111 = .ok (.iload_n 3, 1) := by decide +kernel
theorem dM_walk_112 : decode cM_walk 112 = .ok (.iaload, 1) := by decide +kernel
theorem dM_walk_113 : decode cM_walk 113 = .ok (.iaload, 1) := by decide +kernel
theorem dM_walk_114 : decode cM_walk 114 = .ok (.aload_n 0, 1) := by decide +kernel
theorem dM_walk_115 : decode cM_walk 115 = .ok (.getfield 64, 3) := by decide +kernel
theorem dM_walk_118 : decode cM_walk 118 = .ok (.aload_n 0, 1) := by decide +kernel
theorem dM_walk_119 : decode cM_walk 119 = .ok (.getfield 16, 3) := by decide +kernel
theorem dM_walk_122 : decode cM_walk 122 = .ok (.iload_n 3, 1) := by decide +kernel
theorem dM_walk_123 : decode cM_walk 123 = .ok (.iaload, 1) := by decide +kernel
theorem dM_walk_124 : decode cM_walk 124 = .ok (.iaload, 1) := by decide +kernel
theorem dM_walk_125 : decode cM_walk 125 = .ok (.aload_n 0, 1) := by decide +kernel
theorem dM_walk_126 : decode cM_walk 126 = .ok (.getfield 25, 3) := by decide +kernel
theorem dM_walk_129 : decode cM_walk 129 = .ok (.iload_n 3, 1) := by decide +kernel
theorem dM_walk_130 : decode cM_walk 130 = .ok (.iaload, 1) := by decide +kernel
theorem dM_walk_131 : decode cM_walk 131 = .ok (.iadd, 1) := by decide +kernel
theorem dM_walk_132 : decode cM_walk 132 = .ok (.invokestatic 98, 3) := by decide +kernel
theorem dM_walk_135 : decode cM_walk 135 = .ok (.iastore, 1) := by decide +kernel
theorem dM_walk_136 : decode cM_walk 136 = .ok (.iinc 3 1, 3) := by decide +kernel
theorem dM_walk_139 : decode cM_walk 139 = .ok (.goto (-97), 3) := by decide +kernel
theorem dM_walk_142 : decode cM_walk 142 = .ok (.iinc 2 1, 3) := by decide +kernel
theorem dM_walk_145 : decode cM_walk 145 = .ok (.goto (-111), 3) := by decide +kernel
theorem dM_walk_148 : decode cM_walk 148 = .ok (.return_, 1) := by decide +kernel
theorem dM_way_0 : decode cM_way 0 = .ok (.iload_n 1, 1) := by decide +kernel
theorem dM_way_1 : decode cM_way 1 = .ok (.invokestatic 170, 3) := by decide +kernel
theorem dM_way_4 : decode cM_way 4 = .ok (.ifCond .eq 10, 3) := by decide +kernel
theorem dM_way_7 : decode cM_way 7 = .ok (.iload_n 2, 1) := by decide +kernel
theorem dM_way_8 : decode cM_way 8 = .ok (.invokestatic 170, 3) := by decide +kernel
theorem dM_way_11 : decode cM_way 11 = .ok (.ifCond .ne 9, 3) := by decide +kernel
theorem dM_way_14 : decode cM_way 14 = .ok (.aload_n 0, 1) := by decide +kernel
theorem dM_way_15 : decode cM_way 15 = .ok (.iconst (-1), 1) := by decide +kernel
theorem dM_way_16 : decode cM_way 16 = .ok (.invokevirtual 84, 3) := by decide +kernel
theorem dM_way_19 : decode cM_way 19 = .ok (.ireturn, 1) := by decide +kernel
theorem dM_way_20 : decode cM_way 20 = .ok (.aload_n 0, 1) := by decide +kernel
theorem dM_way_21 : decode cM_way 21 = .ok (.iload_n 1, 1) := by decide +kernel
theorem dM_way_22 : decode cM_way 22 = .ok (.invokevirtual 173, 3) := by decide +kernel
theorem dM_way_25 : decode cM_way 25 = .ok (.aload_n 0, 1) := by decide +kernel
theorem dM_way_26 : decode cM_way 26 = .ok (.getfield 64, 3) := by decide +kernel
theorem dM_way_29 : decode cM_way 29 = .ok (.iload_n 2, 1) := by decide +kernel
theorem dM_way_30 : decode cM_way 30 = .ok (.iaload, 1) := by decide +kernel
theorem dM_way_31 : decode cM_way 31 = .ok (.sipush 10000, 3) := by decide +kernel
theorem dM_way_34 : decode cM_way 34 = .ok (.if_icmp .ge 12, 3) := by decide +kernel
theorem dM_way_37 : decode cM_way 37 = .ok (.aload_n 0, 1) := by decide +kernel
theorem dM_way_38 : decode cM_way 38 = .ok (.getfield 64, 3) := by decide +kernel
theorem dM_way_41 : decode cM_way 41 = .ok (.iload_n 2, 1) := by decide +kernel
theorem dM_way_42 : decode cM_way 42 = .ok (.iaload, 1) := by decide +kernel
theorem dM_way_43 : decode cM_way 43 = .ok (.goto 5, 3) := by decide +kernel
theorem dM_way_46 : decode cM_way 46 = .ok (.bipush (-9), 2) := by decide +kernel
theorem dM_way_48 : decode cM_way 48 = .ok (.ireturn, 1) := by decide +kernel
theorem dM_within_0 : decode cM_within 0 = .ok (.iload_n 0, 1) := by decide +kernel
theorem dM_within_1 : decode cM_within 1 = .ok (.iload_n 1, 1) := by decide +kernel
theorem dM_within_2 : decode cM_within 2 = .ok (.if_icmp .lt 12, 3) := by decide +kernel
theorem dM_within_5 : decode cM_within 5 = .ok (.iload_n 0, 1) := by decide +kernel
theorem dM_within_6 : decode cM_within 6 = .ok (.iload_n 2, 1) := by decide +kernel
theorem dM_within_7 : decode cM_within 7 = .ok (.if_icmp .gt 7, 3) := by decide +kernel
theorem dM_within_10 : decode cM_within 10 = .ok (.iconst 1, 1) := by decide +kernel
theorem dM_within_11 : decode cM_within 11 = .ok (.goto 4, 3) := by decide +kernel
theorem dM_within_14 : decode cM_within 14 = .ok (.iconst 0, 1) := by decide +kernel
theorem dM_within_15 : decode cM_within 15 = .ok (.ireturn, 1) := by decide +kernel
end
section
/-! what stands at each place of the code -/
theorem dJC_highSurrogate_0 : decode cJC_highSurrogate 0 = .ok (.iload_n 0, 1) := by decide +kernel
theorem dJC_highSurrogate_1 : decode cJC_highSurrogate 1 = .ok (.bipush 10, 2) := by decide +kernel
theorem dJC_highSurrogate_3 : decode cJC_highSurrogate 3 = .ok (.iushr, 1) := by decide +kernel
theorem dJC_highSurrogate_4 : decode cJC_highSurrogate 4 = .ok (.ldc 110, 2) := by decide +kernel
theorem dJC_highSurrogate_6 : decode cJC_highSurrogate 6 = .ok (.iadd, 1) := by decide +kernel
theorem dJC_highSurrogate_7 : decode cJC_highSurrogate 7 = .ok (.i2c, 1) := by decide +kernel
theorem dJC_highSurrogate_8 : decode cJC_highSurrogate 8 = .ok (.ireturn, 1) := by decide +kernel
theorem dJC_isValidCodePoint_0 : decode cJC_isValidCodePoint 0 = .ok (.iload_n 0, 1) := by decide +kernel
theorem dJC_isValidCodePoint_1 : decode cJC_isValidCodePoint 1 = .ok (.bipush 16, 2) := by decide +kernel
theorem dJC_isValidCodePoint_3 : decode cJC_isValidCodePoint 3 = .ok (.iushr, 1) := by decide +kernel
theorem dJC_isValidCodePoint_4 : decode cJC_isValidCodePoint 4 = .ok (.istore_n 1, 1) := by decide +kernel
theorem dJC_isValidCodePoint_5 : decode cJC_isValidCodePoint 5 = .ok (.iload_n 1, 1) := by decide +kernel
theorem dJC_isValidCodePoint_6 : decode cJC_isValidCodePoint 6 = .ok (.bipush 17, 2) := by decide +kernel
theorem dJC_isValidCodePoint_8 : decode cJC_isValidCodePoint 8 = .ok (.if_icmp .ge 7, 3) := by decide +kernel
theorem dJC_isValidCodePoint_11 : decode cJC_isValidCodePoint 11 = .ok (.iconst 1, 1) := by decide +kernel
theorem dJC_isValidCodePoint_12 : decode cJC_isValidCodePoint 12 = .ok (.goto 4, 3) := by decide +kernel
theorem dJC_isValidCodePoint_15 : decode cJC_isValidCodePoint 15 = .ok (.iconst 0, 1) := by decide +kernel
theorem dJC_isValidCodePoint_16 : decode cJC_isValidCodePoint 16 = .ok (.ireturn, 1) := by decide +kernel
theorem dJC_lowSurrogate_0 : decode cJC_lowSurrogate 0 = .ok (.iload_n 0, 1) := by decide +kernel
theorem dJC_lowSurrogate_1 : decode cJC_lowSurrogate 1 = .ok (.sipush 1023, 3) := by decide +kernel
theorem dJC_lowSurrogate_4 : decode cJC_lowSurrogate 4 = .ok (.iand, 1) := by decide +kernel
theorem dJC_lowSurrogate_5 : decode cJC_lowSurrogate 5 = .ok (.ldc 76, 2) := by decide +kernel
theorem dJC_lowSurrogate_7 : decode cJC_lowSurrogate 7 = .ok (.iadd, 1) := by decide +kernel
theorem dJC_lowSurrogate_8 : decode cJC_lowSurrogate 8 = .ok (.i2c, 1) := by decide +kernel
theorem dJC_lowSurrogate_9 : decode cJC_lowSurrogate 9 = .ok (.ireturn, 1) := by decide +kernel
theorem dJI_bitCount_0 : decode cJI_bitCount 0 = .ok (.iload_n 0, 1) := by decide +kernel
theorem dJI_bitCount_1 : decode cJI_bitCount 1 = .ok (.iload_n 0, 1) := by decide +kernel
theorem dJI_bitCount_2 : decode cJI_bitCount 2 = .ok (.iconst 1, 1) := by decide +kernel
theorem dJI_bitCount_3 : decode cJI_bitCount 3 = .ok (.iushr, 1) := by decide +kernel
theorem dJI_bitCount_4 : decode cJI_bitCount 4 = .ok (.ldc_w 265, 3) := by decide +kernel
theorem dJI_bitCount_7 : decode cJI_bitCount 7 = .ok (.iand, 1) := by decide +kernel
theorem dJI_bitCount_8 : decode cJI_bitCount 8 = .ok (.isub, 1) := by decide +kernel
theorem dJI_bitCount_9 : decode cJI_bitCount 9 = .ok (.istore_n 0, 1) := by decide +kernel
theorem dJI_bitCount_10 : decode cJI_bitCount 10 = .ok (.iload_n 0, 1) := by decide +kernel
theorem dJI_bitCount_11 : decode cJI_bitCount 11 = .ok (.ldc_w 266, 3) := by decide +kernel
theorem dJI_bitCount_14 : decode cJI_bitCount 14 = .ok (.iand, 1) := by decide +kernel
theorem dJI_bitCount_15 : decode cJI_bitCount 15 = .ok (.iload_n 0, 1) := by decide +kernel
theorem dJI_bitCount_16 : decode cJI_bitCount 16 = .ok (.iconst 2, 1) := by decide +kernel
theorem dJI_bitCount_17 : decode cJI_bitCount 17 = .ok (.iushr, 1) := by decide +kernel
theorem dJI_bitCount_18 : decode cJI_bitCount 18 = .ok (.ldc_w 266, 3) := by decide +kernel
theorem dJI_bitCount_21 : decode cJI_bitCount 21 = .ok (.iand, 1) := by decide +kernel
theorem dJI_bitCount_22 : decode cJI_bitCount 22 = .ok (.iadd, 1) := by decide +kernel
theorem dJI_bitCount_23 : decode cJI_bitCount 23 = .ok (.istore_n 0, 1) := by decide +kernel
theorem dJI_bitCount_24 : decode cJI_bitCount 24 = .ok (.iload_n 0, 1) := by decide +kernel
theorem dJI_bitCount_25 : decode cJI_bitCount 25 = .ok (.iload_n 0, 1) := by decide +kernel
theorem dJI_bitCount_26 : decode cJI_bitCount 26 = .ok (.iconst 4, 1) := by decide +kernel
theorem dJI_bitCount_27 : decode cJI_bitCount 27 = .ok (.iushr, 1) := by decide +kernel
theorem dJI_bitCount_28 : decode cJI_bitCount 28 = .ok (.iadd, 1) := by decide +kernel
theorem dJI_bitCount_29 : decode cJI_bitCount 29 = .ok (.ldc_w 267, 3) := by decide +kernel
theorem dJI_bitCount_32 : decode cJI_bitCount 32 = .ok (.iand, 1) := by decide +kernel
theorem dJI_bitCount_33 : decode cJI_bitCount 33 = .ok (.istore_n 0, 1) := by decide +kernel
theorem dJI_bitCount_34 : decode cJI_bitCount 34 = .ok (.iload_n 0, 1) := by decide +kernel
theorem dJI_bitCount_35 : decode cJI_bitCount 35 = .ok (.iload_n 0, 1) := by decide +kernel
theorem dJI_bitCount_36 : decode cJI_bitCount 36 = .ok (.bipush 8, 2) := by decide +kernel
theorem dJI_bitCount_38 : decode cJI_bitCount 38 = .ok (.iushr, 1) := by decide +kernel
theorem dJI_bitCount_39 : decode cJI_bitCount 39 = .ok (.iadd, 1) := by decide +kernel
theorem dJI_bitCount_40 : decode cJI_bitCount 40 = .ok (.istore_n 0, 1) := by decide +kernel
theorem dJI_bitCount_41 : decode cJI_bitCount 41 = .ok (.iload_n 0, 1) := by decide +kernel
theorem dJI_bitCount_42 : decode cJI_bitCount 42 = .ok (.iload_n 0, 1) := by decide +kernel
theorem dJI_bitCount_43 : decode cJI_bitCount 43 = .ok (.bipush 16, 2) := by decide +kernel
theorem dJI_bitCount_45 : decode cJI_bitCount 45 = .ok (.iushr, 1) := by decide +kernel
theorem dJI_bitCount_46 : decode cJI_bitCount 46 = .ok (.iadd, 1) := by decide +kernel
theorem dJI_bitCount_47 : decode cJI_bitCount 47 = .ok (.istore_n 0, 1) := by decide +kernel
theorem dJI_bitCount_48 : decode cJI_bitCount 48 = .ok (.iload_n 0, 1) := by decide +kernel
theorem dJI_bitCount_49 : decode cJI_bitCount 49 = .ok (.bipush 63, 2) := by decide +kernel
theorem dJI_bitCount_51 : decode cJI_bitCount 51 = .ok (.iand, 1) := by decide +kernel
theorem dJI_bitCount_52 : decode cJI_bitCount 52 = .ok (.ireturn, 1) := by decide +kernel
theorem dJM_max_0 : decode cJM_max 0 = .ok (.iload_n 0, 1) := by decide +kernel
theorem dJM_max_1 : decode cJM_max 1 = .ok (.iload_n 1, 1) := by decide +kernel
theorem dJM_max_2 : decode cJM_max 2 = .ok (.if_icmp .lt 7, 3) := by decide +kernel
theorem dJM_max_5 : decode cJM_max 5 = .ok (.iload_n 0, 1) := by decide +kernel
theorem dJM_max_6 : decode cJM_max 6 = .ok (.goto 4, 3) := by decide +kernel
theorem dJM_max_9 : decode cJM_max 9 = .ok (.iload_n 1, 1) := by decide +kernel
theorem dJM_max_10 : decode cJM_max 10 = .ok (.ireturn, 1) := by decide +kernel
theorem dJM_min_0 : decode cJM_min 0 = .ok (.iload_n 0, 1) := by decide +kernel
theorem dJM_min_1 : decode cJM_min 1 = .ok (.iload_n 1, 1) := by decide +kernel
theorem dJM_min_2 : decode cJM_min 2 = .ok (.if_icmp .gt 7, 3) := by decide +kernel
theorem dJM_min_5 : decode cJM_min 5 = .ok (.iload_n 0, 1) := by decide +kernel
theorem dJM_min_6 : decode cJM_min 6 = .ok (.goto 4, 3) := by decide +kernel
theorem dJM_min_9 : decode cJM_min 9 = .ok (.iload_n 1, 1) := by decide +kernel
theorem dJM_min_10 : decode cJM_min 10 = .ok (.ireturn, 1) := by decide +kernel
theorem dJS_charAt_0 : decode cJS_charAt 0 = .ok (.aload_n 0, 1) := by decide +kernel
theorem dJS_charAt_1 : decode cJS_charAt 1 = .ok (.invokevirtual 492, 3) := by decide +kernel
theorem dJS_charAt_4 : decode cJS_charAt 4 = .ok (.ifCond .eq 12, 3) := by decide +kernel
theorem dJS_charAt_7 : decode cJS_charAt 7 = .ok (.aload_n 0, 1) := by decide +kernel
theorem dJS_charAt_8 : decode cJS_charAt 8 = .ok (.getfield 9, 3) := by decide +kernel
theorem dJS_charAt_11 : decode cJS_charAt 11 = .ok (.iload_n 1, 1) := by decide +kernel
theorem dJS_charAt_12 : decode cJS_charAt 12 = .ok (.invokestatic 495, 3) := by decide +kernel
theorem dJS_charAt_15 : decode cJS_charAt 15 = .ok (.ireturn, 1) := by decide +kernel
theorem dJS_charAt_16 : decode cJS_charAt 16 = .ok (.aload_n 0, 1) := by decide +kernel
theorem dJS_charAt_17 : decode cJS_charAt 17 = .ok (.getfield 9, 3) := by decide +kernel
theorem dJS_charAt_20 : decode cJS_charAt 20 = .ok (.iload_n 1, 1) := by decide +kernel
theorem dJS_charAt_21 : decode cJS_charAt 21 = .ok (.invokestatic 498, 3) := by decide +kernel
theorem dJS_charAt_24 : decode cJS_charAt 24 = .ok (.ireturn, 1) := by decide +kernel
theorem dJS_checkBoundsBeginEnd_0 : decode cJS_checkBoundsBeginEnd 0 = .ok (.iload_n 0, 1) := by decide +kernel
theorem dJS_checkBoundsBeginEnd_1 : decode cJS_checkBoundsBeginEnd 1 = .ok (.iload_n 1, 1) := by decide +kernel
theorem dJS_checkBoundsBeginEnd_2 : decode cJS_checkBoundsBeginEnd 2 = .ok (.iload_n 2, 1) := by decide +kernel
theorem dJS_checkBoundsBeginEnd_3 : decode cJS_checkBoundsBeginEnd 3 = .ok (.getstatic 1053, 3) := by decide +kernel
theorem dJS_checkBoundsBeginEnd_6 : decode cJS_checkBoundsBeginEnd 6 = .ok (.invokestatic 1062, 3) := by decide +kernel
theorem dJS_checkBoundsBeginEnd_9 : decode cJS_checkBoundsBeginEnd 9 = .ok (.pop, 1) := by decide +kernel
theorem dJS_checkBoundsBeginEnd_10 : decode cJS_checkBoundsBeginEnd 10 = .ok (.return_, 1) := by decide +kernel
theorem dJS_checkIndex_0 : decode cJS_checkIndex 0 = .ok (.iload_n 0, 1) := by decide +kernel
theorem dJS_checkIndex_1 : decode cJS_checkIndex 1 = .ok (.iload_n 1, 1) := by decide +kernel
theorem dJS_checkIndex_2 : decode cJS_checkIndex 2 = .ok (.getstatic 1053, 3) := by decide +kernel
theorem dJS_checkIndex_5 : decode cJS_checkIndex 5 = .ok (.invokestatic 1059, 3) := by decide +kernel
theorem dJS_checkIndex_8 : decode cJS_checkIndex 8 = .ok (.pop, 1) := by decide +kernel
theorem dJS_checkIndex_9 : decode cJS_checkIndex 9 = .ok (.return_, 1) := by decide +kernel
theorem dJS_coder_0 : decode cJS_coder 0 = .ok (.getstatic 38, 3) := by decide +kernel
theorem dJS_coder_3 : decode cJS_coder 3 = .ok (.ifCond .eq 10, 3) := by decide +kernel
theorem dJS_coder_6 : decode cJS_coder 6 = .ok (.aload_n 0, 1) := by decide +kernel
theorem dJS_coder_7 : decode cJS_coder 7 = .ok (.getfield 15, 3) := by decide +kernel
theorem dJS_coder_10 : decode cJS_coder 10 = .ok (.goto 4, 3) := by decide +kernel
theorem dJS_coder_13 : decode cJS_coder 13 = .ok (.iconst 1, 1) := by decide +kernel
theorem dJS_coder_14 : decode cJS_coder 14 = .ok (.ireturn, 1) := by decide +kernel
theorem dJS_indexOf0_0 : decode cJS_indexOf0 0 = .ok (.aload_n 0, 1) := by decide +kernel
theorem dJS_indexOf0_1 : decode cJS_indexOf0 1 = .ok (.iload_n 1, 1) := by decide +kernel
theorem dJS_indexOf0_2 : decode cJS_indexOf0 2 = .ok (.iconst 0, 1) := by decide +kernel
theorem dJS_indexOf0_3 : decode cJS_indexOf0 3 = .ok (.invokevirtual 633, 3) := by decide +kernel
theorem dJS_indexOf0_6 : decode cJS_indexOf0 6 = .ok (.ireturn, 1) := by decide +kernel
theorem dJS_indexOf1_0 : decode cJS_indexOf1 0 = .ok (.aload_n 0, 1) := by decide +kernel
theorem dJS_indexOf1_1 : decode cJS_indexOf1 1 = .ok (.invokevirtual 492, 3) := by decide +kernel
theorem dJS_indexOf1_4 : decode cJS_indexOf1 4 = .ok (.ifCond .eq 19, 3) := by decide +kernel
theorem dJS_indexOf1_7 : decode cJS_indexOf1 7 = .ok (.aload_n 0, 1) := by decide +kernel
theorem dJS_indexOf1_8 : decode cJS_indexOf1 8 = .ok (.getfield 9, 3) := by decide +kernel
theorem dJS_indexOf1_11 : decode cJS_indexOf1 11 = .ok (.iload_n 1, 1) := by decide +kernel
theorem dJS_indexOf1_12 : decode cJS_indexOf1 12 = .ok (.iload_n 2, 1) := by decide +kernel
theorem dJS_indexOf1_13 : decode cJS_indexOf1 13 = .ok (.aload_n 0, 1) := by decide +kernel
theorem dJS_indexOf1_14 : decode cJS_indexOf1 14 = .ok (.invokevirtual 505, 3) := by decide +kernel
theorem dJS_indexOf1_17 : decode cJS_indexOf1 17 = .ok (.invokestatic 637, 3) := by decide +kernel
theorem dJS_indexOf1_20 : decode cJS_indexOf1 20 = .ok (.goto 16, 3) := by decide +kernel
theorem dJS_indexOf1_23 : decode cJS_indexOf1 23 = .ok (.aload_n 0, 1) := by decide +kernel
theorem dJS_indexOf1_24 : decode cJS_indexOf1 24 = .ok (.getfield 9, 3) := by decide +kernel
theorem dJS_indexOf1_27 : decode cJS_indexOf1 27 = .ok (.iload_n 1, 1) := by decide +kernel
theorem dJS_indexOf1_28 : decode cJS_indexOf1 28 = .ok (.iload_n 2, 1) := by decide +kernel
theorem dJS_indexOf1_29 : decode cJS_indexOf1 29 = .ok (.aload_n 0, 1) := by decide +kernel
theorem dJS_indexOf1_30 : decode cJS_indexOf1 30 = .ok (.invokevirtual 505, 3) := by decide +kernel
theorem dJS_indexOf1_33 : decode cJS_indexOf1 33 = .ok (.invokestatic 640, 3) := by decide +kernel
theorem dJS_indexOf1_36 : decode cJS_indexOf1 36 = .ok (.ireturn, 1) := by decide +kernel
theorem dJS_isEmpty_0 : decode cJS_isEmpty 0 = .ok (.aload_n 0, 1) := by decide +kernel
theorem dJS_isEmpty_1 : decode cJS_isEmpty 1 = .ok (.getfield 9, 3) := by decide +kernel
theorem dJS_isEmpty_4 : decode cJS_isEmpty 4 = .ok (.arraylength, 1) := by decide +kernel
theorem dJS_isEmpty_5 : decode cJS_isEmpty 5 = .ok (.ifCond .ne 7, 3) := by decide +kernel
theorem dJS_isEmpty_8 : decode cJS_isEmpty 8 = .ok (.iconst 1, 1) := by decide +kernel
theorem dJS_isEmpty_9 : decode cJS_isEmpty 9 = .ok (.goto 4, 3) := by decide +kernel
theorem dJS_isEmpty_12 : decode cJS_isEmpty 12 = .ok (.iconst 0, 1) := by decide +kernel
theorem dJS_isEmpty_13 : decode cJS_isEmpty 13 = .ok (.ireturn, 1) := by decide +kernel
theorem dJS_isLatin1_0 : decode cJS_isLatin1 0 = .ok (.getstatic 38, 3) := by decide +kernel
theorem dJS_isLatin1_3 : decode cJS_isLatin1 3 = .ok (.ifCond .eq 14, 3) := by decide +kernel
theorem dJS_isLatin1_6 : decode cJS_isLatin1 6 = .ok (.aload_n 0, 1) := by decide +kernel
theorem dJS_isLatin1_7 : decode cJS_isLatin1 7 = .ok (.getfield 15, 3) := by decide +kernel
theorem dJS_isLatin1_10 : decode cJS_isLatin1 10 = .ok (.ifCond .ne 7, 3) := by decide +kernel
theorem dJS_isLatin1_13 : decode cJS_isLatin1 13 = .ok (.iconst 1, 1) := by decide +kernel
theorem dJS_isLatin1_14 : decode cJS_isLatin1 14 = .ok (.goto 4, 3) := by decide +kernel
theorem dJS_isLatin1_17 : decode cJS_isLatin1 17 = .ok (.iconst 0, 1) := by decide +kernel
theorem dJS_isLatin1_18 : decode cJS_isLatin1 18 = .ok (.ireturn, 1) := by decide +kernel
theorem dJS_length_0 : decode cJS_length 0 = .ok (.aload_n 0, 1) := by decide +kernel
theorem dJS_length_1 : decode cJS_length 1 = .ok (.getfield 9, 3) := by decide +kernel
theorem dJS_length_4 : decode cJS_length 4 = .ok (.arraylength, 1) := by decide +kernel
theorem dJS_length_5 : decode cJS_length 5 = .ok (.aload_n 0, 1) := by decide +kernel
theorem dJS_length_6 : decode cJS_length 6 = .ok (.invokevirtual 335, 3) := by decide +kernel
theorem dJS_length_9 : decode cJS_length 9 = .ok (.ishr, 1) := by decide +kernel
theorem dJS_length_10 : decode cJS_length 10 = .ok (.ireturn, 1) := by decide +kernel
theorem dJL_canEncode_0 : decode cJL_canEncode 0 = .ok (.iload_n 0, 1) := by decide +kernel
theorem dJL_canEncode_1 : decode cJL_canEncode 1 = .ok (.ifCond .lt 14, 3) := by decide +kernel
theorem dJL_canEncode_4 : decode cJL_canEncode 4 = .ok (.iload_n 0, 1) := by decide +kernel
theorem dJL_canEncode_5 : decode cJL_canEncode 5 = .ok (.sipush 255, 3) := by decide +kernel
theorem dJL_canEncode_8 : decode cJL_canEncode 8 = .ok (.if_icmp .gt 7, 3) := by decide +kernel
theorem dJL_canEncode_11 : decode cJL_canEncode 11 = .ok (.iconst 1, 1) := by decide +kernel
theorem dJL_canEncode_12 : decode cJL_canEncode 12 = .ok (.goto 4, 3) := by decide +kernel
theorem dJL_canEncode_15 : decode cJL_canEncode 15 = .ok (.iconst 0, 1) := by decide +kernel
theorem dJL_canEncode_16 : decode cJL_canEncode 16 = .ok (.ireturn, 1) := by decide +kernel
theorem dJL_charAt_0 : decode cJL_charAt 0 = .ok (.iload_n 1, 1) := by decide +kernel
theorem dJL_charAt_1 : decode cJL_charAt 1 = .ok (.aload_n 0, 1) := by decide +kernel
theorem dJL_charAt_2 : decode cJL_charAt 2 = .ok (.arraylength, 1) := by decide +kernel
theorem dJL_charAt_3 : decode cJL_charAt 3 = .ok (.invokestatic 9, 3) := by decide +kernel
theorem dJL_charAt_6 : decode cJL_charAt 6 = .ok (.aload_n 0, 1) := by decide +kernel
theorem dJL_charAt_7 : decode cJL_charAt 7 = .ok (.iload_n 1, 1) := by decide +kernel
theorem dJL_charAt_8 : decode cJL_charAt 8 = .ok (.baload, 1) := by decide +kernel
theorem dJL_charAt_9 : decode cJL_charAt 9 = .ok (.sipush 255, 3) := by decide +kernel
theorem dJL_charAt_12 : decode cJL_charAt 12 = .ok (.iand, 1) := by decide +kernel
theorem dJL_charAt_13 : decode cJL_charAt 13 = .ok (.i2c, 1) := by decide +kernel
theorem dJL_charAt_14 : decode cJL_charAt 14 = .ok (.ireturn, 1) := by decide +kernel
theorem dJL_indexOf_0 : decode cJL_indexOf 0 = .ok (.iload_n 1, 1) := by decide +kernel
theorem dJL_indexOf_1 : decode cJL_indexOf 1 = .ok (.invokestatic 88, 3) := by decide +kernel
theorem dJL_indexOf_4 : decode cJL_indexOf 4 = .ok (.ifCond .ne 5, 3) := by decide +kernel
theorem dJL_indexOf_7 : decode cJL_indexOf 7 = .ok (.iconst (-1), 1) := by decide +kernel
theorem dJL_indexOf_8 : decode cJL_indexOf 8 = .ok (.ireturn, 1) := by decide +kernel
theorem dJL_indexOf_9 : decode cJL_indexOf 9 = .ok (.iload_n 2, 1) := by decide +kernel
theorem dJL_indexOf_10 : decode cJL_indexOf 10 = .ok (.iconst 0, 1) := by decide +kernel
theorem dJL_indexOf_11 : decode cJL_indexOf 11 = .ok (.invokestatic 92, 3) := by decide +kernel
theorem dJL_indexOf_14 : decode cJL_indexOf 14 = .ok (.istore_n 2, 1) := by decide +kernel
theorem dJL_indexOf_15 : decode cJL_indexOf 15 = .ok (.iload_n 3, 1) := by decide +kernel
theorem dJL_indexOf_16 : decode cJL_indexOf 16 = .ok (.aload_n 0, 1) := by decide +kernel
theorem dJL_indexOf_17 : decode cJL_indexOf 17 = .ok (.arraylength, 1) := by decide +kernel
theorem dJL_indexOf_18 : decode cJL_indexOf 18 = .ok (.invokestatic 38, 3) := by decide +kernel
theorem dJL_indexOf_21 : decode cJL_indexOf 21 = .ok (.istore_n 3, 1) := by decide +kernel
theorem dJL_indexOf_22 : decode cJL_indexOf 22 = .ok (.iload_n 2, 1) := by decide +kernel
theorem dJL_indexOf_23 : decode cJL_indexOf 23 = .ok (.iload_n 3, 1) := by decide +kernel
theorem dJL_indexOf_24 : decode cJL_indexOf 24 = .ok (.if_icmp .lt 5, 3) := by decide +kernel
theorem dJL_indexOf_27 : decode cJL_indexOf 27 = .ok (.iconst (-1), 1) := by decide +kernel
theorem dJL_indexOf_28 : decode cJL_indexOf 28 = .ok (.ireturn, 1) := by decide +kernel
theorem dJL_indexOf_29 : decode cJL_indexOf 29 = .ok (.aload_n 0, 1) := by decide +kernel
theorem dJL_indexOf_30 : decode cJL_indexOf 30 = .ok (.iload_n 1, 1) := by decide +kernel
theorem dJL_indexOf_31 : decode cJL_indexOf 31 = .ok (.iload_n 2, 1) := by decide +kernel
theorem dJL_indexOf_32 : decode cJL_indexOf 32 = .ok (.iload_n 3, 1) := by decide +kernel
theorem dJL_indexOf_33 : decode cJL_indexOf 33 = .ok (.invokestatic 95, 3) := by decide +kernel
theorem dJL_indexOf_36 : decode cJL_indexOf 36 = .ok (.ireturn, 1) := by decide +kernel
theorem dJL_indexOfChar_0 : decode cJL_indexOfChar 0 = .ok (.iload_n 1, 1) := by decide +kernel
theorem dJL_indexOfChar_1 : decode cJL_indexOfChar 1 = .ok (.i2b, 1) := by decide +kernel
theorem dJL_indexOfChar_2 : decode cJL_indexOfChar 2 = .ok (.istore 4, 2) := by decide +kernel
theorem dJL_indexOfChar_4 : decode cJL_indexOfChar 4 = .ok (.iload_n 2, 1) := by decide +kernel
theorem dJL_indexOfChar_5 : decode cJL_indexOfChar 5 = .ok (.istore 5, 2) := by decide +kernel
theorem dJL_indexOfChar_7 : decode cJL_indexOfChar 7 = .ok (.iload 5, 2) := by decide +kernel
theorem dJL_indexOfChar_9 : decode cJL_indexOfChar 9 = .ok (.iload_n 3, 1) := by decide +kernel
theorem dJL_indexOfChar_10 : decode cJL_indexOfChar 10 = .ok (.if_icmp .ge 21, 3) := by decide +kernel
theorem dJL_indexOfChar_13 : decode cJL_indexOfChar 13 = .ok (.aload_n 0, 1) := by decide +kernel
theorem dJL_indexOfChar_14 : decode cJL_indexOfChar 14 = .ok (.iload 5, 2) := by decide +kernel
theorem dJL_indexOfChar_16 : decode cJL_indexOfChar 16 = .ok (.baload, 1) := by decide +kernel
theorem dJL_indexOfChar_17 : decode cJL_indexOfChar 17 = .ok (.iload 4, 2) := by decide +kernel
theorem dJL_indexOfChar_19 : decode cJL_indexOfChar 19 = .ok (.if_icmp .ne 6, 3) := by decide +kernel
theorem dJL_indexOfChar_22 : decode cJL_indexOfChar 22 = .ok (.iload 5, 2) := by decide +kernel
theorem dJL_indexOfChar_24 : decode cJL_indexOfChar 24 = .ok (.ireturn, 1) := by decide +kernel
theorem dJL_indexOfChar_25 : decode cJL_indexOfChar 25 = .ok (.iinc 5 1, 3) := by decide +kernel
theorem dJL_indexOfChar_28 : decode cJL_indexOfChar 28 = .ok (.goto (-21), 3) := by decide +kernel
theorem dJL_indexOfChar_31 : decode cJL_indexOfChar 31 = .ok (.iconst (-1), 1) := by decide +kernel
theorem dJL_indexOfChar_32 : decode cJL_indexOfChar 32 = .ok (.ireturn, 1) := by decide +kernel
theorem dJU_charAt_0 : decode cJU_charAt 0 = .ok (.iload_n 1, 1) := by decide +kernel
theorem dJU_charAt_1 : decode cJU_charAt 1 = .ok (.aload_n 0, 1) := by decide +kernel
theorem dJU_charAt_2 : decode cJU_charAt 2 = .ok (.invokestatic 67, 3) := by decide +kernel
theorem dJU_charAt_5 : decode cJU_charAt 5 = .ok (.aload_n 0, 1) := by decide +kernel
theorem dJU_charAt_6 : decode cJU_charAt 6 = .ok (.iload_n 1, 1) := by decide +kernel
theorem dJU_charAt_7 : decode cJU_charAt 7 = .ok (.invokestatic 71, 3) := by decide +kernel
theorem dJU_charAt_10 : decode cJU_charAt 10 = .ok (.ireturn, 1) := by decide +kernel
theorem dJU_checkBoundsBeginEnd_0 : decode cJU_checkBoundsBeginEnd 0 = .ok (.iload_n 0, 1) := by decide +kernel
theorem dJU_checkBoundsBeginEnd_1 : decode cJU_checkBoundsBeginEnd 1 = .ok (.iload_n 1, 1) := by decide +kernel
theorem dJU_checkBoundsBeginEnd_2 : decode cJU_checkBoundsBeginEnd 2 = .ok (.aload_n 2, 1) := by decide +kernel
theorem dJU_checkBoundsBeginEnd_3 : decode cJU_checkBoundsBeginEnd 3 = .ok (.invokestatic 48, 3) := by decide +kernel
theorem dJU_checkBoundsBeginEnd_6 : decode cJU_checkBoundsBeginEnd 6 = .ok (.invokestatic 241, 3) := by decide +kernel
theorem dJU_checkBoundsBeginEnd_9 : decode cJU_checkBoundsBeginEnd 9 = .ok (.return_, 1) := by decide +kernel
theorem dJU_checkIndex_0 : decode cJU_checkIndex 0 = .ok (.iload_n 0, 1) := by decide +kernel
theorem dJU_checkIndex_1 : decode cJU_checkIndex 1 = .ok (.aload_n 1, 1) := by decide +kernel
theorem dJU_checkIndex_2 : decode cJU_checkIndex 2 = .ok (.invokestatic 48, 3) := by decide +kernel
theorem dJU_checkIndex_5 : decode cJU_checkIndex 5 = .ok (.invokestatic 414, 3) := by decide +kernel
theorem dJU_checkIndex_8 : decode cJU_checkIndex 8 = .ok (.return_, 1) := by decide +kernel
theorem dJU_getChar_0 : decode cJU_getChar 0 = .ok (.getstatic 44, 3) := by decide +kernel
theorem dJU_getChar_3 : decode cJU_getChar 3 = .ok (.ifCond .ne 25, 3) := by decide +kernel
theorem dJU_getChar_6 : decode cJU_getChar 6 = .ok (.iload_n 1, 1) := by decide +kernel
theorem dJU_getChar_7 : decode cJU_getChar 7 = .ok (.ifCond .lt 11, 3) := by decide +kernel
theorem dJU_getChar_10 : decode cJU_getChar 10 = .ok (.iload_n 1, 1) := by decide +kernel
theorem dJU_getChar_11 : decode cJU_getChar 11 = .ok (.aload_n 0, 1) := by decide +kernel
theorem dJU_getChar_12 : decode cJU_getChar 12 = .ok (.invokestatic 48, 3) := by decide +kernel
theorem dJU_getChar_15 : decode cJU_getChar 15 = .ok (.if_icmp .lt 13, 3) := by decide +kernel
theorem dJU_getChar_18 : decode cJU_getChar 18 = .ok (.new 52, 3) := by decide +kernel
theorem dJU_getChar_21 : decode cJU_getChar 21 = .ok (.dup, 1) := by decide +kernel
theorem dJU_getChar_22 : decode cJU_getChar 22 = .ok (.ldc 54, 2) := by decide +kernel
theorem dJU_getChar_24 : decode cJU_getChar 24 = .ok (.invokespecial 56, 3) := by decide +kernel
theorem dJU_getChar_27 : decode cJU_getChar 27 = .ok (.athrow, 1) := by decide +kernel
theorem dJU_getChar_28 : decode cJU_getChar 28 = .ok (.iload_n 1, 1) := by decide +kernel
theorem dJU_getChar_29 : decode cJU_getChar 29 = .ok (.iconst 1, 1) := by decide +kernel
theorem dJU_getChar_30 : decode cJU_getChar 30 = .ok (.ishl, 1) := by decide +kernel
theorem dJU_getChar_31 : decode cJU_getChar 31 = .ok (.istore_n 1, 1) := by decide +kernel
theorem dJU_getChar_32 : decode cJU_getChar 32 = .ok (.aload_n 0, 1) := by decide +kernel
theorem dJU_getChar_33 : decode cJU_getChar 33 = .ok (.iload_n 1, 1) := by decide +kernel
theorem dJU_getChar_34 : decode cJU_getChar 34 = .ok (.iinc 1 1, 3) := by decide +kernel
theorem dJU_getChar_37 : decode cJU_getChar 37 = .ok (.baload, 1) := by decide +kernel
theorem dJU_getChar_38 : decode cJU_getChar 38 = .ok (.sipush 255, 3) := by decide +kernel
theorem dJU_getChar_41 : decode cJU_getChar 41 = .ok (.iand, 1) := by decide +kernel
theorem dJU_getChar_42 : decode cJU_getChar 42 = .ok (.getstatic 59, 3) := by decide +kernel
theorem dJU_getChar_45 : decode cJU_getChar 45 = .ok (.ishl, 1) := by decide +kernel
theorem dJU_getChar_46 : decode cJU_getChar 46 = .ok (.aload_n 0, 1) := by decide +kernel
theorem dJU_getChar_47 : decode cJU_getChar 47 = .ok (.iload_n 1, 1) := by decide +kernel
theorem dJU_getChar_48 : decode cJU_getChar 48 = .ok (.baload, 1) := by decide +kernel
theorem dJU_getChar_49 : decode cJU_getChar 49 = .ok (.sipush 255, 3) := by decide +kernel
theorem dJU_getChar_52 : decode cJU_getChar 52 = .ok (.iand, 1) := by decide +kernel
theorem dJU_getChar_53 : decode cJU_getChar 53 = .ok (.getstatic 63, 3) := by decide +kernel
theorem dJU_getChar_56 : decode cJU_getChar 56 = .ok (.ishl, 1) := by decide +kernel
theorem dJU_getChar_57 : decode cJU_getChar 57 = .ok (.ior, 1) := by decide +kernel
theorem dJU_getChar_58 : decode cJU_getChar 58 = .ok (.i2c, 1) := by decide +kernel
theorem dJU_getChar_59 : decode cJU_getChar 59 = .ok (.ireturn, 1) := by decide +kernel
theorem dJU_indexOf_0 : decode cJU_indexOf 0 = .ok (.iload_n 2, 1) := by decide +kernel
theorem dJU_indexOf_1 : decode cJU_indexOf 1 = .ok (.iconst 0, 1) := by decide +kernel
theorem dJU_indexOf_2 : decode cJU_indexOf 2 = .ok (.invokestatic 224, 3) := by decide +kernel
theorem dJU_indexOf_5 : decode cJU_indexOf 5 = .ok (.istore_n 2, 1) := by decide +kernel
theorem dJU_indexOf_6 : decode cJU_indexOf 6 = .ok (.iload_n 3, 1) := by decide +kernel
theorem dJU_indexOf_7 : decode cJU_indexOf 7 = .ok (.aload_n 0, 1) := by decide +kernel
theorem dJU_indexOf_8 : decode cJU_indexOf 8 = .ok (.arraylength, 1) := by decide +kernel
theorem dJU_indexOf_9 : decode cJU_indexOf 9 = .ok (.iconst 1, 1) := by decide +kernel
theorem dJU_indexOf_10 : decode cJU_indexOf 10 = .ok (.ishr, 1) := by decide +kernel
theorem dJU_indexOf_11 : decode cJU_indexOf 11 = .ok (.invokestatic 183, 3) := by decide +kernel
theorem dJU_indexOf_14 : decode cJU_indexOf 14 = .ok (.istore_n 3, 1) := by decide +kernel
theorem dJU_indexOf_15 : decode cJU_indexOf 15 = .ok (.iload_n 2, 1) := by decide +kernel
theorem dJU_indexOf_16 : decode cJU_indexOf 16 = .ok (.iload_n 3, 1) := by decide +kernel
theorem dJU_indexOf_17 : decode cJU_indexOf 17 = .ok (.if_icmp .lt 5, 3) := by decide +kernel
theorem dJU_indexOf_20 : decode cJU_indexOf 20 = .ok (.iconst (-1), 1) := by decide +kernel
theorem dJU_indexOf_21 : decode cJU_indexOf 21 = .ok (.ireturn, 1) := by decide +kernel
theorem dJU_indexOf_22 : decode cJU_indexOf 22 = .ok (.iload_n 1, 1) := by decide +kernel
theorem dJU_indexOf_23 : decode cJU_indexOf 23 = .ok (.ldc 227, 2) := by decide +kernel
theorem dJU_indexOf_25 : decode cJU_indexOf 25 = .ok (.if_icmp .ge 11, 3) := by decide +kernel
theorem dJU_indexOf_28 : decode cJU_indexOf 28 = .ok (.aload_n 0, 1) := by decide +kernel
theorem dJU_indexOf_29 : decode cJU_indexOf 29 = .ok (.iload_n 1, 1) := by decide +kernel
theorem dJU_indexOf_30 : decode cJU_indexOf 30 = .ok (.iload_n 2, 1) := by decide +kernel
theorem dJU_indexOf_31 : decode cJU_indexOf 31 = .ok (.iload_n 3, 1) := by decide +kernel
theorem dJU_indexOf_32 : decode cJU_indexOf 32 = .ok (.invokestatic 228, 3) := by decide +kernel
theorem dJU_indexOf_35 : decode cJU_indexOf 35 = .ok (.ireturn, 1) := by decide +kernel
theorem dJU_indexOf_36 : decode cJU_indexOf 36 = .ok (.aload_n 0, 1) := by decide +kernel
theorem dJU_indexOf_37 : decode cJU_indexOf 37 = .ok (.iload_n 1, 1) := by decide +kernel
theorem dJU_indexOf_38 : decode cJU_indexOf 38 = .ok (.iload_n 2, 1) := by decide +kernel
theorem dJU_indexOf_39 : decode cJU_indexOf 39 = .ok (.iload_n 3, 1) := by decide +kernel
theorem dJU_indexOf_40 : decode cJU_indexOf 40 = .ok (.invokestatic 232, 3) := by decide +kernel
theorem dJU_indexOf_43 : decode cJU_indexOf 43 = .ok (.ireturn, 1) := by decide +kernel
theorem dJU_indexOfChar_0 : decode cJU_indexOfChar 0 = .ok (.iload_n 2, 1) := by decide +kernel
theorem dJU_indexOfChar_1 : decode cJU_indexOfChar 1 = .ok (.iload_n 3, 1) := by decide +kernel
theorem dJU_indexOfChar_2 : decode cJU_indexOfChar 2 = .ok (.aload_n 0, 1) := by decide +kernel
theorem dJU_indexOfChar_3 : decode cJU_indexOfChar 3 = .ok (.invokestatic 96, 3) := by decide +kernel
theorem dJU_indexOfChar_6 : decode cJU_indexOfChar 6 = .ok (.aload_n 0, 1) := by decide +kernel
theorem dJU_indexOfChar_7 : decode cJU_indexOfChar 7 = .ok (.iload_n 1, 1) := by decide +kernel
theorem dJU_indexOfChar_8 : decode cJU_indexOfChar 8 = .ok (.iload_n 2, 1) := by decide +kernel
theorem dJU_indexOfChar_9 : decode cJU_indexOfChar 9 = .ok (.iload_n 3, 1) := by decide +kernel
theorem dJU_indexOfChar_10 : decode cJU_indexOfChar 10 = .ok (.invokestatic 244, 3) := by decide +kernel
theorem dJU_indexOfChar_13 : decode cJU_indexOfChar 13 = .ok (.ireturn, 1) := by decide +kernel
theorem dJU_indexOfCharUnsafe_0 : decode cJU_indexOfCharUnsafe 0 = .ok (.iload_n 2, 1) := by decide +kernel
theorem dJU_indexOfCharUnsafe_1 : decode cJU_indexOfCharUnsafe 1 = .ok (.istore 4, 2) := by decide +kernel
theorem dJU_indexOfCharUnsafe_3 : decode cJU_indexOfCharUnsafe 3 = .ok (.iload 4, 2) := by decide +kernel
theorem dJU_indexOfCharUnsafe_5 : decode cJU_indexOfCharUnsafe 5 = .ok (.iload_n 3, 1) := by decide +kernel
theorem dJU_indexOfCharUnsafe_6 : decode cJU_indexOfCharUnsafe 6 = .ok (.if_icmp .ge 22, 3) := by decide +kernel
theorem dJU_indexOfCharUnsafe_9 : decode cJU_indexOfCharUnsafe 9 = .ok (.aload_n 0, 1) := by decide +kernel
theorem dJU_indexOfCharUnsafe_10 : decode cJU_indexOfCharUnsafe 10 = .ok (.iload 4, 2) := by decide +kernel
theorem dJU_indexOfCharUnsafe_12 : decode cJU_indexOfCharUnsafe 12 = .ok (.invokestatic 71, 3) := by decide +kernel
theorem dJU_indexOfCharUnsafe_15 : decode cJU_indexOfCharUnsafe 15 = .ok (.iload_n 1, 1) := by decide +kernel
theorem dJU_indexOfCharUnsafe_16 : decode cJU_indexOfCharUnsafe 16 = .ok (.if_icmp .ne 6, 3) := by decide +kernel
theorem dJU_indexOfCharUnsafe_19 : decode cJU_indexOfCharUnsafe 19 = .ok (.iload 4, 2) := by decide +kernel
theorem dJU_indexOfCharUnsafe_21 : decode cJU_indexOfCharUnsafe 21 = .ok (.ireturn, 1) := by decide +kernel
theorem dJU_indexOfCharUnsafe_22 : decode cJU_indexOfCharUnsafe 22 = .ok (.iinc 4 1, 3) := by decide +kernel
theorem dJU_indexOfCharUnsafe_25 : decode cJU_indexOfCharUnsafe 25 = .ok (.goto (-22), 3) := by decide +kernel
theorem dJU_indexOfCharUnsafe_28 : decode cJU_indexOfCharUnsafe 28 = .ok (.iconst (-1), 1) := by decide +kernel
theorem dJU_indexOfCharUnsafe_29 : decode cJU_indexOfCharUnsafe 29 = .ok (.ireturn, 1) := by decide +kernel
theorem dJU_indexOfSupplementary_0 : decode cJU_indexOfSupplementary 0 = .ok (.iload_n 1, 1) := by decide +kernel
theorem dJU_indexOfSupplementary_1 : decode cJU_indexOfSupplementary 1 = .ok (.invokestatic 164, 3) := by decide +kernel
theorem dJU_indexOfSupplementary_4 : decode cJU_indexOfSupplementary 4 = .ok (.ifCond .eq 65, 3) := by decide +kernel
theorem dJU_indexOfSupplementary_7 : decode cJU_indexOfSupplementary 7 = .ok (.iload_n 1, 1) := by decide +kernel
theorem dJU_indexOfSupplementary_8 : decode cJU_indexOfSupplementary 8 = .ok (.invokestatic 157, 3) := by decide +kernel
theorem dJU_indexOfSupplementary_11 : decode cJU_indexOfSupplementary 11 = .ok (.istore 4, 2) := by decide +kernel
theorem dJU_indexOfSupplementary_13 : decode cJU_indexOfSupplementary 13 = .ok (.iload_n 1, 1) := by decide +kernel
theorem dJU_indexOfSupplementary_14 : decode cJU_indexOfSupplementary 14 = .ok (.invokestatic 161, 3) := by decide +kernel
theorem dJU_indexOfSupplementary_17 : decode cJU_indexOfSupplementary 17 = .ok (.istore 5, 2) := by decide +kernel
theorem dJU_indexOfSupplementary_19 : decode cJU_indexOfSupplementary 19 = .ok (.iload_n 2, 1) := by decide +kernel
theorem dJU_indexOfSupplementary_20 : decode cJU_indexOfSupplementary 20 = .ok (.iload_n 3, 1) := by decide +kernel
theorem dJU_indexOfSupplementary_21 : decode cJU_indexOfSupplementary 21 = .ok (.aload_n 0, 1) := by decide +kernel
theorem dJU_indexOfSupplementary_22 : decode cJU_indexOfSupplementary 22 = .ok (.invokestatic 96, 3) := by decide +kernel
theorem dJU_indexOfSupplementary_25 : decode cJU_indexOfSupplementary 25 = .ok (.iload_n 2, 1) := by decide +kernel
theorem dJU_indexOfSupplementary_26 : decode cJU_indexOfSupplementary 26 = .ok (.istore 6, 2) := by decide +kernel
theorem dJU_indexOfSupplementary_28 : decode cJU_indexOfSupplementary 28 = .ok (.iload 6, 2) := by decide +kernel
theorem dJU_indexOfSupplementary_30 : decode cJU_indexOfSupplementary 30 = .ok (.iload_n 3, 1) := by decide +kernel
theorem dJU_indexOfSupplementary_31 : decode cJU_indexOfSupplementary 31 = .ok (.iconst 1, 1) := by decide +kernel
theorem dJU_indexOfSupplementary_32 : decode cJU_indexOfSupplementary 32 = .ok (.isub, 1) := by decide +kernel
theorem dJU_indexOfSupplementary_33 : decode cJU_indexOfSupplementary 33 = .ok (.if_icmp .ge 36, 3) := by decide +kernel
theorem dJU_indexOfSupplementary_36 : decode cJU_indexOfSupplementary 36 = .ok (.aload_n 0, 1) := by decide +kernel
theorem dJU_indexOfSupplementary_37 : decode cJU_indexOfSupplementary 37 = .ok (.iload 6, 2) := by decide +kernel
theorem dJU_indexOfSupplementary_39 : decode cJU_indexOfSupplementary 39 = .ok (.invokestatic 71, 3) := by decide +kernel
theorem dJU_indexOfSupplementary_42 : decode cJU_indexOfSupplementary 42 = .ok (.iload 4, 2) := by decide +kernel
theorem dJU_indexOfSupplementary_44 : decode cJU_indexOfSupplementary 44 = .ok (.if_icmp .ne 19, 3) := by decide +kernel
theorem dJU_indexOfSupplementary_47 : decode cJU_indexOfSupplementary 47 = .ok (.aload_n 0, 1) := by decide +kernel
theorem dJU_indexOfSupplementary_48 : decode cJU_indexOfSupplementary 48 = .ok (.iload 6, 2) := by decide +kernel
theorem dJU_indexOfSupplementary_50 : decode cJU_indexOfSupplementary 50 = .ok (.iconst 1, 1) := by decide +kernel
theorem dJU_indexOfSupplementary_51 : decode cJU_indexOfSupplementary 51 = .ok (.iadd, 1) := by decide +kernel
theorem dJU_indexOfSupplementary_52 : decode cJU_indexOfSupplementary 52 = .ok (.invokestatic 71, 3) := by decide +kernel
theorem dJU_indexOfSupplementary_55 : decode cJU_indexOfSupplementary 55 = .ok (.iload 5, 2) := by decide +kernel
theorem dJU_indexOfSupplementary_57 : decode cJU_indexOfSupplementary 57 = .ok (.if_icmp .ne 6, 3) := by decide +kernel
theorem dJU_indexOfSupplementary_60 : decode cJU_indexOfSupplementary 60 = .ok (.iload 6, 2) := by decide +kernel
theorem dJU_indexOfSupplementary_62 : decode cJU_indexOfSupplementary 62 = .ok (.ireturn, 1) := by decide +kernel
theorem dJU_indexOfSupplementary_63 : decode cJU_indexOfSupplementary 63 = .ok (.iinc 6 1, 3) := by decide +kernel
theorem dJU_indexOfSupplementary_66 : decode cJU_indexOfSupplementary 66 = .ok (.goto (-38), 3) := by decide +kernel
theorem dJU_indexOfSupplementary_69 : decode cJU_indexOfSupplementary 69 = .ok (.iconst (-1), 1) := by decide +kernel
theorem dJU_indexOfSupplementary_70 : decode cJU_indexOfSupplementary 70 = .ok (.ireturn, 1) := by decide +kernel
theorem dJU_length_0 : decode cJU_length 0 = .ok (.aload_n 0, 1) := by decide +kernel
theorem dJU_length_1 : decode cJU_length 1 = .ok (.arraylength, 1) := by decide +kernel
theorem dJU_length_2 : decode cJU_length 2 = .ok (.iconst 1, 1) := by decide +kernel
theorem dJU_length_3 : decode cJU_length 3 = .ok (.ishr, 1) := by decide +kernel
theorem dJU_length_4 : decode cJU_length 4 = .ok (.ireturn, 1) := by decide +kernel
theorem dJA_fill_0 : decode cJA_fill 0 = .ok (.iconst 0, 1) := by decide +kernel
theorem dJA_fill_1 : decode cJA_fill 1 = .ok (.istore_n 2, 1) := by decide +kernel
theorem dJA_fill_2 : decode cJA_fill 2 = .ok (.aload_n 0, 1) := by decide +kernel
theorem dJA_fill_3 : decode cJA_fill 3 = .ok (.arraylength, 1) := by decide +kernel
theorem dJA_fill_4 : decode cJA_fill 4 = .ok (.istore_n 3, 1) := by decide +kernel
theorem dJA_fill_5 : decode cJA_fill 5 = .ok (.iload_n 2, 1) := by decide +kernel
theorem dJA_fill_6 : decode cJA_fill 6 = .ok (.iload_n 3, 1) := by decide +kernel
theorem dJA_fill_7 : decode cJA_fill 7 = .ok (.if_icmp .ge 13, 3) := by decide +kernel
theorem dJA_fill_10 : decode cJA_fill 10 = .ok (.aload_n 0, 1) := by decide +kernel
theorem dJA_fill_11 : decode cJA_fill 11 = .ok (.iload_n 2, 1) := by decide +kernel
theorem dJA_fill_12 : decode cJA_fill 12 = .ok (.iload_n 1, 1) := by decide +kernel
theorem dJA_fill_13 : decode cJA_fill 13 = .ok (.iastore, 1) := by decide +kernel
theorem dJA_fill_14 : decode cJA_fill 14 = .ok (.iinc 2 1, 3) := by decide +kernel
theorem dJA_fill_17 : decode cJA_fill 17 = .ok (.goto (-12), 3) := by decide +kernel
theorem dJA_fill_20 : decode cJA_fill 20 = .ok (.return_, 1) := by decide +kernel
theorem dJP_checkFromToIndex_0 : decode cJP_checkFromToIndex 0 = .ok (.iload_n 0, 1) := by decide +kernel
theorem dJP_checkFromToIndex_1 : decode cJP_checkFromToIndex 1 = .ok (.ifCond .lt 13, 3) := by decide +kernel
theorem dJP_checkFromToIndex_4 : decode cJP_checkFromToIndex 4 = .ok (.iload_n 0, 1) := by decide +kernel
theorem dJP_checkFromToIndex_5 : decode cJP_checkFromToIndex 5 = .ok (.iload_n 1, 1) := by decide +kernel
theorem dJP_checkFromToIndex_6 : decode cJP_checkFromToIndex 6 = .ok (.if_icmp .gt 8, 3) := by decide +kernel
theorem dJP_checkFromToIndex_9 : decode cJP_checkFromToIndex 9 = .ok (.iload_n 1, 1) := by decide +kernel
theorem dJP_checkFromToIndex_10 : decode cJP_checkFromToIndex 10 = .ok (.iload_n 2, 1) := by decide +kernel
theorem dJP_checkFromToIndex_11 : decode cJP_checkFromToIndex 11 = .ok (.if_icmp .le 11, 3) := by decide +kernel
theorem dJP_checkFromToIndex_14 : decode cJP_checkFromToIndex 14 = .ok (.aload_n 3, 1) := by decide +kernel
theorem dJP_checkFromToIndex_15 : decode cJP_checkFromToIndex 15 = .ok (.iload_n 0, 1) := by decide +kernel
theorem dJP_checkFromToIndex_16 : decode cJP_checkFromToIndex 16 = .ok (.iload_n 1, 1) := by decide +kernel
theorem dJP_checkFromToIndex_17 : decode cJP_checkFromToIndex 17 = .ok (.iload_n 2, 1) := by decide +kernel
theorem dJP_checkFromToIndex_18 : decode cJP_checkFromToIndex 18 = .ok (.invokestatic 99, 3) := by decide +kernel
theorem dJP_checkFromToIndex_21 : decode cJP_checkFromToIndex 21 = .ok (.athrow, 1) := by decide +kernel
theorem dJP_checkFromToIndex_22 : decode cJP_checkFromToIndex 22 = .ok (.iload_n 0, 1) := by decide +kernel
theorem dJP_checkFromToIndex_23 : decode cJP_checkFromToIndex 23 = .ok (.ireturn, 1) := by decide +kernel
theorem dJP_checkIndex_0 : decode cJP_checkIndex 0 = .ok (.iload_n 0, 1) := by decide +kernel
theorem dJP_checkIndex_1 : decode cJP_checkIndex 1 = .ok (.ifCond .lt 8, 3) := by decide +kernel
theorem dJP_checkIndex_4 : decode cJP_checkIndex 4 = .ok (.iload_n 0, 1) := by decide +kernel
theorem dJP_checkIndex_5 : decode cJP_checkIndex 5 = .ok (.iload_n 1, 1) := by decide +kernel
theorem dJP_checkIndex_6 : decode cJP_checkIndex 6 = .ok (.if_icmp .lt 10, 3) := by decide +kernel
theorem dJP_checkIndex_9 : decode cJP_checkIndex 9 = .ok (.aload_n 2, 1) := by decide +kernel
theorem dJP_checkIndex_10 : decode cJP_checkIndex 10 = .ok (.iload_n 0, 1) := by decide +kernel
theorem dJP_checkIndex_11 : decode cJP_checkIndex 11 = .ok (.iload_n 1, 1) := by decide +kernel
theorem dJP_checkIndex_12 : decode cJP_checkIndex 12 = .ok (.invokestatic 95, 3) := by decide +kernel
theorem dJP_checkIndex_15 : decode cJP_checkIndex 15 = .ok (.athrow, 1) := by decide +kernel
theorem dJP_checkIndex_16 : decode cJP_checkIndex 16 = .ok (.iload_n 0, 1) := by decide +kernel
theorem dJP_checkIndex_17 : decode cJP_checkIndex 17 = .ok (.ireturn, 1) := by decide +kernel
end
section
/-! small facts for the walks -/
theorem inc_nat (i : Nat) : nI i + Int32.ofInt 1 = nI (i + 1) := by rw [lit1]; exact nI_1 i
theorem inc_raw (x : Int32) : x + Int32.ofInt 1 = x + 1 := by rw [lit1]
theorem ne_toInt {x k : Int32} {z : Int} (h : ¬ x = k) (hk : k.toInt = z) : x.toInt ≠ z := fun q => h (Int32.toInt_inj.mp (q.trans hk.symm))
def mx (a b : Int32) : Int32 := if a < b then b else a
def mn (a b : Int32) : Int32 := if b < a then b else a
theorem r_iret {X : XX} {Z : ZZ} {cc : ByteArray} {n : Nat} {own : String} {l0 : Launch} {d : Nat} {ws : va_W} {pc : Nat} {lv : List (Nat × Value)} (hX : Okk X Z cc n own l0 d) {ws0 : va_W} {Post : Option Value → va_W → Prop} (hQ : Ret X Z ws0 Post (some .int)) {v : Int32} (hd : decode cc pc = .ok (.ireturn, 1)) (hk : ws.map (·.1) = ws0.map (·.1)) (hp : Post (some (.int v)) ws) : G X Z ws pc lv [.int v] := g_iret (st := []) hX hQ hd hk hp
theorem r_zret {X : XX} {Z : ZZ} {cc : ByteArray} {n : Nat} {own : String} {l0 : Launch} {d : Nat} {ws : va_W} {pc : Nat} {lv : List (Nat × Value)} (hX : Okk X Z cc n own l0 d) {ws0 : va_W} {Post : Option Value → va_W → Prop} {ty : FieldType} (hQ : Ret X Z ws0 Post (some ty)) {v : Int32} (hn : narrow ty (.int v) = .int v) (hd : decode cc pc = .ok (.ireturn, 1)) (hk : ws.map (·.1) = ws0.map (·.1)) (hp : Post (some (.int v)) ws) : G X Z ws pc lv [.int v] := g_zret (st := []) hX hQ hn hd hk hp
theorem r_vret {X : XX} {Z : ZZ} {cc : ByteArray} {n : Nat} {own : String} {l0 : Launch} {d : Nat} {ws : va_W} {pc : Nat} {lv : List (Nat × Value)} (hX : Okk X Z cc n own l0 d) {ws0 : va_W} {Post : Option Value → va_W → Prop} (hQ : Ret X Z ws0 Post none) (hd : decode cc pc = .ok (.return_, 1)) (hk : ws.map (·.1) = ws0.map (·.1)) (hp : Post none ws) : G X Z ws pc lv [] := g_vret (st := []) hX hQ hd hk hp
end
section
/-! the Burrow: what breathes -/
def isRoomS (x : Int32) : Int32 := if x < 0 then 0 else if 6 ≤ x then 0 else 1
def isPlaceS (x : Int32) : Int32 := if x < 0 then 0 else if 7 ≤ x then 0 else 1
def bk (k a : Int32) : Int32 := if k = 0 then 2 else if k = 1 then 1 else if k = 2 then 4 else if k = 3 then 3 else if k = 4 then 0 else if k = 5 then (if a = 0 then 1 else 0) else 0
def kindOfS (x : Int32) : Int32 := if x = 112 then 0 else if x = 99 then 1 else if x = 119 then 2 else if x = 104 then 3 else if x = 116 then 4 else if x = 115 then 5 else -1
def orNoneS (x : Int32) : Int32 := if 1000000 ≤ x then -9 else x
def nextSeedS (z : Int32) : Int32 := z * 1664525 + 1013904223
def drawnS (z m : Int32) : Int32 := if m ≤ 0 then 0 else (z &&& 2147483647) / 256 - (z &&& 2147483647) / 256 / m * m
/-- how many of the first so many are that -/
def cnt (f : Nat → Int32) (r : Int32) : Nat → Int32
  | 0 => 0
  | n + 1 => if f n = r then cnt f r n + 1 else cnt f r n
def al (x : Int32) : Int32 := if x = 1 then 1 else 0
def bsum (S : St) (r a : Int32) : Nat → Int32
  | 0 => 0
  | n + 1 => if S 8 n = r then bsum S r a n + bk (S 7 n) a else bsum S r a n
def breathInS (S : St) (nP : Nat) (r : Int32) : Int32 := bsum S r (al (cnt (S 8) r nP)) nP
def hasLockS (S : St) (x : Int32) : Int32 := if x < 0 then 0 else if S 12 0 ≤ x then 0 else 1
def hasPersonS (S : St) (x : Int32) : Int32 := if x < 0 then 0 else if S 12 1 ≤ x then 0 else 1
set_option maxHeartbeats 4000000 in
set_option maxRecDepth 20000 in
theorem con_X_isRoom (l : Launch) (Z : ZZ) (x : Int32) : Con l Z yX_isRoom cX_isRoom 1 (some .boolean) 0 [.int x] ([]) (Fn (some (.int (isRoomS x))) ([])) := by
  refine Con.of (by decide) (Nat.le_of_ble_eq_true rfl) (fun X hX hQ => ?_)
  show G X Z ([]) 0 [(0, .int x)] []
  refine g_iload_n hX dX_isRoom_0 0 rfl ?_
  refine g_if_lt hX 14 dX_isRoom_1 (by decide) (fun c_1 => ?_) (fun c_1 => ?_)
  · refine g_iconst (v := 0) hX dX_isRoom_14 (by decide) ?_
    exact r_zret hX hQ (rfl) dX_isRoom_15 rfl (⟨by simp [isRoomS, c_1], rfl⟩)
  · refine g_iload_n hX dX_isRoom_4 0 rfl ?_
    refine g_bipush (v := 6) hX dX_isRoom_5 (by decide) ?_
    refine g_icmp_ge hX 14 dX_isRoom_7 (by decide) (fun c_7 => ?_) (fun c_7 => ?_)
    · refine g_iconst (v := 0) hX dX_isRoom_14 (by decide) ?_
      exact r_zret hX hQ (rfl) dX_isRoom_15 rfl (⟨by simp [isRoomS, c_1, c_7], rfl⟩)
    · refine g_iconst (v := 1) hX dX_isRoom_10 (by decide) ?_
      refine g_goto hX 15 dX_isRoom_11 (by decide) ?_
      exact r_zret hX hQ (rfl) dX_isRoom_15 rfl (⟨by simp [isRoomS, c_1, c_7], rfl⟩)
set_option maxHeartbeats 4000000 in
set_option maxRecDepth 20000 in
theorem con_X_isPlace (l : Launch) (Z : ZZ) (x : Int32) : Con l Z yX_isPlace cX_isPlace 1 (some .boolean) 0 [.int x] ([]) (Fn (some (.int (isPlaceS x))) ([])) := by
  refine Con.of (by decide) (Nat.le_of_ble_eq_true rfl) (fun X hX hQ => ?_)
  show G X Z ([]) 0 [(0, .int x)] []
  refine g_iload_n hX dX_isPlace_0 0 rfl ?_
  refine g_if_lt hX 14 dX_isPlace_1 (by decide) (fun c_1 => ?_) (fun c_1 => ?_)
  · refine g_iconst (v := 0) hX dX_isPlace_14 (by decide) ?_
    exact r_zret hX hQ (rfl) dX_isPlace_15 rfl (⟨by simp [isPlaceS, c_1], rfl⟩)
  · refine g_iload_n hX dX_isPlace_4 0 rfl ?_
    refine g_bipush (v := 7) hX dX_isPlace_5 (by decide) ?_
    refine g_icmp_ge hX 14 dX_isPlace_7 (by decide) (fun c_7 => ?_) (fun c_7 => ?_)
    · refine g_iconst (v := 0) hX dX_isPlace_14 (by decide) ?_
      exact r_zret hX hQ (rfl) dX_isPlace_15 rfl (⟨by simp [isPlaceS, c_1, c_7], rfl⟩)
    · refine g_iconst (v := 1) hX dX_isPlace_10 (by decide) ?_
      refine g_goto hX 15 dX_isPlace_11 (by decide) ?_
      exact r_zret hX hQ (rfl) dX_isPlace_15 rfl (⟨by simp [isPlaceS, c_1, c_7], rfl⟩)
set_option maxHeartbeats 4000000 in
set_option maxRecDepth 20000 in
theorem con_X_breathOfKind (l : Launch) (Z : ZZ) (k b : Int32) : Con l Z yX_breathOfKind cX_breathOfKind 2 (some .int) 0 [.int k, .int b] ([]) (Fn (some (.int (bk k b))) ([])) := by
  refine Con.of (by decide) (Nat.le_of_ble_eq_true rfl) (fun X hX hQ => ?_)
  show G X Z ([]) 0 [(0, .int k), (1, .int b)] []
  refine g_iload_n hX dX_breathOfKind_0 0 rfl ?_
  by_cases c_1_0 : k = 0
  · refine g_tabIn (off := 39) hX 40 dX_breathOfKind_1 (by rw [c_1_0]; decide) (by rw [c_1_0]; decide) (by rw [c_1_0]; decide) (by decide) ?_
    refine g_iconst (v := 2) hX dX_breathOfKind_40 (by decide) ?_
    exact r_iret hX hQ dX_breathOfKind_41 rfl (⟨by simp [bk, c_1_0], rfl⟩)
  by_cases c_1_1 : k = 1
  · refine g_tabIn (off := 41) hX 42 dX_breathOfKind_1 (by rw [c_1_1]; decide) (by rw [c_1_1]; decide) (by rw [c_1_1]; decide) (by decide) ?_
    refine g_iconst (v := 1) hX dX_breathOfKind_42 (by decide) ?_
    exact r_iret hX hQ dX_breathOfKind_43 rfl (⟨by simp [bk, c_1_0, c_1_1], rfl⟩)
  by_cases c_1_2 : k = 2
  · refine g_tabIn (off := 43) hX 44 dX_breathOfKind_1 (by rw [c_1_2]; decide) (by rw [c_1_2]; decide) (by rw [c_1_2]; decide) (by decide) ?_
    refine g_iconst (v := 4) hX dX_breathOfKind_44 (by decide) ?_
    exact r_iret hX hQ dX_breathOfKind_45 rfl (⟨by simp [bk, c_1_0, c_1_1, c_1_2], rfl⟩)
  by_cases c_1_3 : k = 3
  · refine g_tabIn (off := 45) hX 46 dX_breathOfKind_1 (by rw [c_1_3]; decide) (by rw [c_1_3]; decide) (by rw [c_1_3]; decide) (by decide) ?_
    refine g_iconst (v := 3) hX dX_breathOfKind_46 (by decide) ?_
    exact r_iret hX hQ dX_breathOfKind_47 rfl (⟨by simp [bk, c_1_0, c_1_1, c_1_2, c_1_3], rfl⟩)
  by_cases c_1_4 : k = 4
  · refine g_tabIn (off := 47) hX 48 dX_breathOfKind_1 (by rw [c_1_4]; decide) (by rw [c_1_4]; decide) (by rw [c_1_4]; decide) (by decide) ?_
    refine g_iconst (v := 0) hX dX_breathOfKind_48 (by decide) ?_
    exact r_iret hX hQ dX_breathOfKind_49 rfl (⟨by simp [bk, c_1_0, c_1_1, c_1_2, c_1_3, c_1_4], rfl⟩)
  by_cases c_1_5 : k = 5
  · refine g_tabIn (off := 49) hX 50 dX_breathOfKind_1 (by rw [c_1_5]; decide) (by rw [c_1_5]; decide) (by rw [c_1_5]; decide) (by decide) ?_
    refine g_iload_n hX dX_breathOfKind_50 1 rfl ?_
    refine g_if_eq hX 58 dX_breathOfKind_51 (by decide) (fun c_51 => ?_) (fun c_51 => ?_)
    · refine g_iconst (v := 1) hX dX_breathOfKind_58 (by decide) ?_
      exact r_iret hX hQ dX_breathOfKind_59 rfl (⟨by simp [bk, c_1_0, c_1_1, c_1_2, c_1_3, c_1_4, c_1_5, c_51], rfl⟩)
    · refine g_iconst (v := 0) hX dX_breathOfKind_54 (by decide) ?_
      refine g_goto hX 59 dX_breathOfKind_55 (by decide) ?_
      exact r_iret hX hQ dX_breathOfKind_59 rfl (⟨by simp [bk, c_1_0, c_1_1, c_1_2, c_1_3, c_1_4, c_1_5, c_51], rfl⟩)
  refine g_tabOut hX 60 dX_breathOfKind_1 (by have := ne_toInt c_1_0 (z := 0) (by decide); have := ne_toInt c_1_1 (z := 1) (by decide); have := ne_toInt c_1_2 (z := 2) (by decide); have := ne_toInt c_1_3 (z := 3) (by decide); have := ne_toInt c_1_4 (z := 4) (by decide); have := ne_toInt c_1_5 (z := 5) (by decide); omega) (by decide) ?_
  refine g_iconst (v := 0) hX dX_breathOfKind_60 (by decide) ?_
  exact r_iret hX hQ dX_breathOfKind_61 rfl (⟨by simp [bk, c_1_0, c_1_1, c_1_2, c_1_3, c_1_4, c_1_5], rfl⟩)
set_option maxHeartbeats 4000000 in
set_option maxRecDepth 20000 in
theorem con_X_kindOf (l : Launch) (Z : ZZ) (x : Int32) : Con l Z yX_kindOf cX_kindOf 1 (some .int) 0 [.int x] ([]) (Fn (some (.int (kindOfS x))) ([])) := by
  refine Con.of (by decide) (Nat.le_of_ble_eq_true rfl) (fun X hX hQ => ?_)
  show G X Z ([]) 0 [(0, .int x)] []
  refine g_iload_n hX dX_kindOf_0 0 rfl ?_
  by_cases c_1_99 : x = 99
  · refine g_look (off := 61) hX 62 dX_kindOf_1 (by decide) (by rw [c_1_99]; decide) (by decide) ?_
    refine g_iconst (v := 1) hX dX_kindOf_62 (by decide) ?_
    exact r_iret hX hQ dX_kindOf_63 rfl (⟨by simp [kindOfS, c_1_99], rfl⟩)
  by_cases c_1_104 : x = 104
  · refine g_look (off := 65) hX 66 dX_kindOf_1 (by decide) (by rw [c_1_104]; decide) (by decide) ?_
    refine g_iconst (v := 3) hX dX_kindOf_66 (by decide) ?_
    exact r_iret hX hQ dX_kindOf_67 rfl (⟨by simp [kindOfS, c_1_99, c_1_104], rfl⟩)
  by_cases c_1_112 : x = 112
  · refine g_look (off := 59) hX 60 dX_kindOf_1 (by decide) (by rw [c_1_112]; decide) (by decide) ?_
    refine g_iconst (v := 0) hX dX_kindOf_60 (by decide) ?_
    exact r_iret hX hQ dX_kindOf_61 rfl (⟨by simp [kindOfS, c_1_99, c_1_104, c_1_112], rfl⟩)
  by_cases c_1_115 : x = 115
  · refine g_look (off := 69) hX 70 dX_kindOf_1 (by decide) (by rw [c_1_115]; decide) (by decide) ?_
    refine g_iconst (v := 5) hX dX_kindOf_70 (by decide) ?_
    exact r_iret hX hQ dX_kindOf_71 rfl (⟨by simp [kindOfS, c_1_99, c_1_104, c_1_112, c_1_115], rfl⟩)
  by_cases c_1_116 : x = 116
  · refine g_look (off := 67) hX 68 dX_kindOf_1 (by decide) (by rw [c_1_116]; decide) (by decide) ?_
    refine g_iconst (v := 4) hX dX_kindOf_68 (by decide) ?_
    exact r_iret hX hQ dX_kindOf_69 rfl (⟨by simp [kindOfS, c_1_99, c_1_104, c_1_112, c_1_115, c_1_116], rfl⟩)
  by_cases c_1_119 : x = 119
  · refine g_look (off := 63) hX 64 dX_kindOf_1 (by decide) (by rw [c_1_119]; decide) (by decide) ?_
    refine g_iconst (v := 2) hX dX_kindOf_64 (by decide) ?_
    exact r_iret hX hQ dX_kindOf_65 rfl (⟨by simp [kindOfS, c_1_99, c_1_104, c_1_112, c_1_115, c_1_116, c_1_119], rfl⟩)
  refine g_look (off := 71) hX 72 dX_kindOf_1 (by decide) (by rw [lv_osw c_1_99 (by decide)]; rw [lv_osw c_1_104 (by decide)]; rw [lv_osw c_1_112 (by decide)]; rw [lv_osw c_1_115 (by decide)]; rw [lv_osw c_1_116 (by decide)]; rw [lv_osw c_1_119 (by decide)]; rfl) (by decide) ?_
  refine g_iconst (v := (-1)) hX dX_kindOf_72 (by decide) ?_
  exact r_iret hX hQ dX_kindOf_73 rfl (⟨by simp [kindOfS, c_1_99, c_1_104, c_1_112, c_1_115, c_1_116, c_1_119], rfl⟩)
set_option maxHeartbeats 4000000 in
set_option maxRecDepth 20000 in
theorem con_X_orNone (l : Launch) (Z : ZZ) (x : Int32) : Con l Z yX_orNone cX_orNone 1 (some .int) 0 [.int x] ([]) (Fn (some (.int (orNoneS x))) ([])) := by
  refine Con.of (by decide) (Nat.le_of_ble_eq_true rfl) (fun X hX hQ => ?_)
  show G X Z ([]) 0 [(0, .int x)] []
  refine g_iload_n hX dX_orNone_0 0 rfl ?_
  refine g_ldc hX dX_orNone_1 q_428 ?_
  refine g_icmp_ge hX 10 dX_orNone_3 (by decide) (fun c_3 => ?_) (fun c_3 => ?_)
  · refine g_bipush (v := (-9)) hX dX_orNone_10 (by decide) ?_
    exact r_iret hX hQ dX_orNone_12 rfl (⟨by simp [orNoneS, c_3], rfl⟩)
  · refine g_iload_n hX dX_orNone_6 0 rfl ?_
    refine g_goto hX 12 dX_orNone_7 (by decide) ?_
    exact r_iret hX hQ dX_orNone_12 rfl (⟨by simp [orNoneS, c_3], rfl⟩)
set_option maxHeartbeats 4000000 in
set_option maxRecDepth 20000 in
theorem con_X_nextSeed (l : Launch) (Z : ZZ) (z : Int32) : Con l Z yX_nextSeed cX_nextSeed 1 (some .int) 0 [.int z] ([]) (Fn (some (.int (nextSeedS z))) ([])) := by
  refine Con.of (by decide) (Nat.le_of_ble_eq_true rfl) (fun X hX hQ => ?_)
  show G X Z ([]) 0 [(0, .int z)] []
  refine g_iload_n hX dX_nextSeed_0 0 rfl ?_
  refine g_ldcw hX dX_nextSeed_1 q_557 ?_
  refine g_imul (z := (z * 1664525)) hX dX_nextSeed_4 (rfl) ?_
  refine g_ldcw hX dX_nextSeed_5 q_558 ?_
  refine g_iadd (z := ((z * 1664525) + 1013904223)) hX dX_nextSeed_8 (rfl) ?_
  exact r_iret hX hQ dX_nextSeed_9 rfl (⟨by simp [nextSeedS], rfl⟩)
set_option maxHeartbeats 4000000 in
set_option maxRecDepth 20000 in
theorem con_X_drawn (l : Launch) (Z : ZZ) (z m : Int32) : Con l Z yX_drawn cX_drawn 2 (some .int) 0 [.int z, .int m] ([]) (Fn (some (.int (drawnS z m))) ([])) := by
  refine Con.of (by decide) (Nat.le_of_ble_eq_true rfl) (fun X hX hQ => ?_)
  show G X Z ([]) 0 [(0, .int z), (1, .int m)] []
  refine g_iload_n hX dX_drawn_0 1 rfl ?_
  refine g_if_le hX 18 dX_drawn_1 (by decide) (fun c_1 => ?_) (fun c_1 => ?_)
  · refine g_iconst (v := 0) hX dX_drawn_18 (by decide) ?_
    exact r_iret hX hQ dX_drawn_19 rfl (⟨by simp [drawnS, c_1], rfl⟩)
  · refine g_iload_n hX dX_drawn_4 0 rfl ?_
    refine g_ldcw hX dX_drawn_5 q_562 ?_
    refine g_iand (z := (z &&& 2147483647)) hX dX_drawn_8 (rfl) ?_
    refine g_sipush (v := 256) hX dX_drawn_9 (by decide) ?_
    refine g_idiv (z := ((z &&& 2147483647) / 256)) hX dX_drawn_12 (by decide) (rfl) ?_
    refine g_iload_n hX dX_drawn_13 1 rfl ?_
    refine g_irem (z := (((z &&& 2147483647) / 256) - ((z &&& 2147483647) / 256) / m * m)) hX dX_drawn_14 (fun q => c_1 (by rw [q]; decide)) (rfl) ?_
    refine g_goto hX 19 dX_drawn_15 (by decide) ?_
    exact r_iret hX hQ dX_drawn_19 rfl (⟨by simp [drawnS, c_1], rfl⟩)
set_option maxHeartbeats 4000000 in
set_option maxRecDepth 20000 in
theorem con_B_hasLock (l : Launch) (Z : ZZ) (h : Nat) (q : Nat → Nat) (S : St) (x : Int32) : Con l Z yB_hasLock cB_hasLock 2 (some .boolean) 0 [.ref h, .int x] (wB Z h q S) (Fn (some (.int (hasLockS S x))) (wB Z h q S)) := by
  refine Con.of (by decide) (Nat.le_of_ble_eq_true rfl) (fun X hX hQ => ?_)
  show G X Z (wB Z h q S) 0 [(0, .ref h), (1, .int x)] []
  refine g_iload_n hX dB_hasLock_0 1 rfl ?_
  refine g_if_lt hX 16 dB_hasLock_1 (by decide) (fun c_1 => ?_) (fun c_1 => ?_)
  · refine g_iconst (v := 0) hX dB_hasLock_16 (by decide) ?_
    exact r_zret hX hQ (rfl) dB_hasLock_17 rfl (⟨by simp [hasLockS, c_1], rfl⟩)
  · refine g_iload_n hX dB_hasLock_4 1 rfl ?_
    refine g_aload_n hX dB_hasLock_5 0 rfl ?_
    refine g_get hX 0 rfl rfl 7 (by decide) uu_B q_49 rfl rfl dB_hasLock_6 ?_
    refine g_icmp_ge hX 16 dB_hasLock_9 (by decide) (fun c_9 => ?_) (fun c_9 => ?_)
    · refine g_iconst (v := 0) hX dB_hasLock_16 (by decide) ?_
      exact r_zret hX hQ (rfl) dB_hasLock_17 rfl (⟨by simp [hasLockS, c_1, c_9], rfl⟩)
    · refine g_iconst (v := 1) hX dB_hasLock_12 (by decide) ?_
      refine g_goto hX 17 dB_hasLock_13 (by decide) ?_
      exact r_zret hX hQ (rfl) dB_hasLock_17 rfl (⟨by simp [hasLockS, c_1, c_9], rfl⟩)
set_option maxHeartbeats 4000000 in
set_option maxRecDepth 20000 in
theorem con_B_hasPerson (l : Launch) (Z : ZZ) (h : Nat) (q : Nat → Nat) (S : St) (x : Int32) : Con l Z yB_hasPerson cB_hasPerson 2 (some .boolean) 0 [.ref h, .int x] (wB Z h q S) (Fn (some (.int (hasPersonS S x))) (wB Z h q S)) := by
  refine Con.of (by decide) (Nat.le_of_ble_eq_true rfl) (fun X hX hQ => ?_)
  show G X Z (wB Z h q S) 0 [(0, .ref h), (1, .int x)] []
  refine g_iload_n hX dB_hasPerson_0 1 rfl ?_
  refine g_if_lt hX 16 dB_hasPerson_1 (by decide) (fun c_1 => ?_) (fun c_1 => ?_)
  · refine g_iconst (v := 0) hX dB_hasPerson_16 (by decide) ?_
    exact r_zret hX hQ (rfl) dB_hasPerson_17 rfl (⟨by simp [hasPersonS, c_1], rfl⟩)
  · refine g_iload_n hX dB_hasPerson_4 1 rfl ?_
    refine g_aload_n hX dB_hasPerson_5 0 rfl ?_
    refine g_get hX 0 rfl rfl 12 (by decide) uu_B q_60 rfl rfl dB_hasPerson_6 ?_
    refine g_icmp_ge hX 16 dB_hasPerson_9 (by decide) (fun c_9 => ?_) (fun c_9 => ?_)
    · refine g_iconst (v := 0) hX dB_hasPerson_16 (by decide) ?_
      exact r_zret hX hQ (rfl) dB_hasPerson_17 rfl (⟨by simp [hasPersonS, c_1, c_9], rfl⟩)
    · refine g_iconst (v := 1) hX dB_hasPerson_12 (by decide) ?_
      refine g_goto hX 17 dB_hasPerson_13 (by decide) ?_
      exact r_zret hX hQ (rfl) dB_hasPerson_17 rfl (⟨by simp [hasPersonS, c_1, c_9], rfl⟩)
set_option maxHeartbeats 4000000 in
set_option maxRecDepth 20000 in
theorem con_B_peopleAt (l : Launch) (Z : ZZ) (h : Nat) (q : Nat → Nat) (S : St) (r : Int32) (nP : Nat) (hP : S 12 1 = nI nP) (hP5 : nP ≤ 5) : Con l Z yB_peopleAt cB_peopleAt 4 (some .int) 0 [.ref h, .int r] (wB Z h q S) (Fn (some (.int (cnt (S 8) r nP))) (wB Z h q S)) := by
  refine Con.of (by decide) (Nat.le_of_ble_eq_true rfl) (fun X hX hQ => ?_)
  show G X Z (wB Z h q S) 0 [(0, .ref h), (1, .int r)] []
  refine g_iconst (v := 0) hX dB_peopleAt_0 (by decide) ?_
  refine g_istore_n (lv1 := [(0, .ref h), (1, .int r), (2, .int 0)]) hX dB_peopleAt_1 (by decide) [1, 2, 0] rfl ?_
  refine g_iconst (v := 0) hX dB_peopleAt_2 (by decide) ?_
  refine g_istore_n (lv1 := [(0, .ref h), (1, .int r), (2, .int 0), (3, .int 0)]) hX dB_peopleAt_3 (by decide) [1, 2, 3, 0] rfl ?_
  have hL_4 : ∀ i, i ≤ nP → G X Z (wB Z h q S) 4 [(0, .ref h), (1, .int r), (2, .int (cnt (S 8) r i)), (3, .int (nI i))] [] := by
    refine loopUp _ nP ?_ (fun i hi_i ih_i => ?_)
    · skip
      refine g_iload_n hX dB_peopleAt_4 3 rfl ?_
      refine g_aload_n hX dB_peopleAt_5 0 rfl ?_
      refine g_get hX 0 rfl rfl 12 (by decide) uu_B q_60 rfl rfl dB_peopleAt_6 ?_
      refine g_top (y := (nI nP)) (hP) ?_
      refine g_icmp_ge hX 31 dB_peopleAt_9 (by decide) (fun c_9 => ?_) (fun c_9 => absurd (nI_le (a := nP) (b := nP) (Nat.le_refl _) (by omega)) c_9)
      refine g_iload_n hX dB_peopleAt_31 2 rfl ?_
      exact r_iret hX hQ dB_peopleAt_32 rfl (⟨rfl, rfl⟩)
    · skip
      refine g_iload_n hX dB_peopleAt_4 3 rfl ?_
      refine g_aload_n hX dB_peopleAt_5 0 rfl ?_
      refine g_get hX 0 rfl rfl 12 (by decide) uu_B q_60 rfl rfl dB_peopleAt_6 ?_
      refine g_top (y := (nI nP)) (hP) ?_
      refine g_icmp_ge hX 31 dB_peopleAt_9 (by decide) (fun c_9 => absurd c_9 (nI_ge (a := i) (b := nP) hi_i (by omega))) (fun c_9 => ?_)
      refine g_aload_n hX dB_peopleAt_12 0 rfl ?_
      refine g_get hX 0 rfl rfl 9 (by decide) uu_B q_54 rfl rfl dB_peopleAt_13 ?_
      refine g_iload_n hX dB_peopleAt_16 3 rfl ?_
      refine g_ald (v := (S 8 i)) hX 9 rfl i (by omega) (by decide) (rfl) (rfl) dB_peopleAt_17 ?_
      refine g_iload_n hX dB_peopleAt_18 1 rfl ?_
      refine g_icmp_ne hX 25 dB_peopleAt_19 (by decide) (fun c_19 => ?_) (fun c_19 => ?_)
      · refine g_iinc (v := (nI (i + 1))) (lv1 := [(0, .ref h), (1, .int r), (2, .int (cnt (S 8) r i)), (3, .int (nI (i + 1)))]) hX dB_peopleAt_25 3 rfl (inc_nat _) (by decide) [1, 2, 3, 0] rfl ?_
        refine g_goto hX 4 dB_peopleAt_28 (by decide) ?_
        have e_2 : (cnt (S 8) r i) = (cnt (S 8) r (i + 1)) := by simp [cnt, c_9, c_19]
        exact g_eq (rfl) (by rw [e_2]) rfl ih_i
      · refine g_iinc (v := ((cnt (S 8) r i) + 1)) (lv1 := [(0, .ref h), (1, .int r), (2, .int ((cnt (S 8) r i) + 1)), (3, .int (nI i))]) hX dB_peopleAt_22 2 rfl (inc_raw _) (by decide) [1, 2, 0, 3] rfl ?_
        refine g_iinc (v := (nI (i + 1))) (lv1 := [(0, .ref h), (1, .int r), (2, .int ((cnt (S 8) r i) + 1)), (3, .int (nI (i + 1)))]) hX dB_peopleAt_25 3 rfl (inc_nat _) (by decide) [1, 2, 3, 0] rfl ?_
        refine g_goto hX 4 dB_peopleAt_28 (by decide) ?_
        have e_2 : ((cnt (S 8) r i) + 1) = (cnt (S 8) r (i + 1)) := by simp [cnt, c_9, c_19]
        exact g_eq (rfl) (by rw [e_2]) rfl ih_i
  exact hL_4 0 (Nat.zero_le _)
set_option maxHeartbeats 4000000 in
set_option maxRecDepth 20000 in
theorem con_B_breathIn (l : Launch) (Z : ZZ) (h : Nat) (q : Nat → Nat) (S : St) (r : Int32) (nP : Nat) (hP : S 12 1 = nI nP) (hP5 : nP ≤ 5) : Con l Z yB_breathIn cB_breathIn 5 (some .int) 1 [.ref h, .int r] (wB Z h q S) (Fn (some (.int (breathInS S nP r))) (wB Z h q S)) := by
  refine Con.of (by decide) (Nat.le_of_ble_eq_true rfl) (fun X hX hQ => ?_)
  show G X Z (wB Z h q S) 0 [(0, .ref h), (1, .int r)] []
  refine g_aload_n hX dB_breathIn_0 0 rfl ?_
  refine g_iload_n hX dB_breathIn_1 1 rfl ?_
  refine g_callV hX (con_B_peopleAt l Z h q S r nP hP hP5) mvB_peopleAt q_327 rfl (by decide) 0 rfl rfl rfl (Nat.le_of_ble_eq_true rfl) dB_breathIn_2 [0, 1, 2, 3, 4, 5, 6, 7, 8, 9, 10, 11, 12] rfl rfl (g_fn (ws1 := wB Z h q S) (st1 := [.int (cnt (S 8) r nP)]) rfl rfl ?_)
  refine g_iconst (v := 1) hX dB_breathIn_5 (by decide) ?_
  have hJ_14 : G X Z (wB Z h q S) 14 [(0, .ref h), (1, .int r)] [.int (al (cnt (S 8) r nP))] := by
    refine g_istore_n (lv1 := [(0, .ref h), (1, .int r), (2, .int (al (cnt (S 8) r nP)))]) hX dB_breathIn_14 (by decide) [1, 2, 0] rfl ?_
    refine g_iconst (v := 0) hX dB_breathIn_15 (by decide) ?_
    refine g_istore_n (lv1 := [(0, .ref h), (1, .int r), (2, .int (al (cnt (S 8) r nP))), (3, .int 0)]) hX dB_breathIn_16 (by decide) [1, 2, 3, 0] rfl ?_
    refine g_iconst (v := 0) hX dB_breathIn_17 (by decide) ?_
    refine g_istore (lv1 := [(0, .ref h), (1, .int r), (2, .int (al (cnt (S 8) r nP))), (3, .int 0), (4, .int 0)]) hX dB_breathIn_18 (by decide) [1, 2, 3, 4, 0] rfl ?_
    have hL_20 : ∀ i, i ≤ nP → G X Z (wB Z h q S) 20 [(0, .ref h), (1, .int r), (2, .int (al (cnt (S 8) r nP))), (3, .int (bsum S r (al (cnt (S 8) r nP)) i)), (4, .int (nI i))] [] := by
      refine loopUp _ nP ?_ (fun i hi_i ih_i => ?_)
      · skip
        refine g_iload hX dB_breathIn_20 4 rfl ?_
        refine g_aload_n hX dB_breathIn_22 0 rfl ?_
        refine g_get hX 0 rfl rfl 12 (by decide) uu_B q_60 rfl rfl dB_breathIn_23 ?_
        refine g_top (y := (nI nP)) (hP) ?_
        refine g_icmp_ge hX 60 dB_breathIn_26 (by decide) (fun c_26 => ?_) (fun c_26 => absurd (nI_le (a := nP) (b := nP) (Nat.le_refl _) (by omega)) c_26)
        refine g_iload_n hX dB_breathIn_60 3 rfl ?_
        exact r_iret hX hQ dB_breathIn_61 rfl (⟨rfl, rfl⟩)
      · skip
        refine g_iload hX dB_breathIn_20 4 rfl ?_
        refine g_aload_n hX dB_breathIn_22 0 rfl ?_
        refine g_get hX 0 rfl rfl 12 (by decide) uu_B q_60 rfl rfl dB_breathIn_23 ?_
        refine g_top (y := (nI nP)) (hP) ?_
        refine g_icmp_ge hX 60 dB_breathIn_26 (by decide) (fun c_26 => absurd c_26 (nI_ge (a := i) (b := nP) hi_i (by omega))) (fun c_26 => ?_)
        refine g_aload_n hX dB_breathIn_29 0 rfl ?_
        refine g_get hX 0 rfl rfl 9 (by decide) uu_B q_54 rfl rfl dB_breathIn_30 ?_
        refine g_iload hX dB_breathIn_33 4 rfl ?_
        refine g_ald (v := (S 8 i)) hX 9 rfl i (by omega) (by decide) (rfl) (rfl) dB_breathIn_35 ?_
        refine g_iload_n hX dB_breathIn_36 1 rfl ?_
        refine g_icmp_ne hX 54 dB_breathIn_37 (by decide) (fun c_37 => ?_) (fun c_37 => ?_)
        · refine g_iinc (v := (nI (i + 1))) (lv1 := [(0, .ref h), (1, .int r), (2, .int (al (cnt (S 8) r nP))), (3, .int (bsum S r (al (cnt (S 8) r nP)) i)), (4, .int (nI (i + 1)))]) hX dB_breathIn_54 4 rfl (inc_nat _) (by decide) [1, 2, 3, 4, 0] rfl ?_
          refine g_goto hX 20 dB_breathIn_57 (by decide) ?_
          have e_3 : (bsum S r (al (cnt (S 8) r nP)) i) = (bsum S r (al (cnt (S 8) r nP)) (i + 1)) := by simp [bsum, c_26, c_37]
          exact g_eq (rfl) (by rw [e_3]) rfl ih_i
        · refine g_iload_n hX dB_breathIn_40 3 rfl ?_
          refine g_aload_n hX dB_breathIn_41 0 rfl ?_
          refine g_get hX 0 rfl rfl 8 (by decide) uu_B q_52 rfl rfl dB_breathIn_42 ?_
          refine g_iload hX dB_breathIn_45 4 rfl ?_
          refine g_ald (v := (S 7 i)) hX 8 rfl i (by omega) (by decide) (rfl) (rfl) dB_breathIn_47 ?_
          refine g_iload_n hX dB_breathIn_48 2 rfl ?_
          refine g_callN hX (con_X_breathOfKind l Z (S 7 i) (al (cnt (S 8) r nP))) msX_breathOfKind (fun U H hE => hE.1.2.2.2.1) rfl (by decide) rfl (Nat.le_of_ble_eq_true rfl) dB_breathIn_49 [] rfl rfl (g_fn (ws1 := wB Z h q S) (st1 := [.int (bk (S 7 i) (al (cnt (S 8) r nP))), .int (bsum S r (al (cnt (S 8) r nP)) i)]) rfl rfl ?_)
          refine g_iadd (z := ((bsum S r (al (cnt (S 8) r nP)) i) + (bk (S 7 i) (al (cnt (S 8) r nP))))) hX dB_breathIn_52 (rfl) ?_
          refine g_istore_n (lv1 := [(0, .ref h), (1, .int r), (2, .int (al (cnt (S 8) r nP))), (3, .int ((bsum S r (al (cnt (S 8) r nP)) i) + (bk (S 7 i) (al (cnt (S 8) r nP))))), (4, .int (nI i))]) hX dB_breathIn_53 (by decide) [1, 2, 3, 0, 4] rfl ?_
          refine g_iinc (v := (nI (i + 1))) (lv1 := [(0, .ref h), (1, .int r), (2, .int (al (cnt (S 8) r nP))), (3, .int ((bsum S r (al (cnt (S 8) r nP)) i) + (bk (S 7 i) (al (cnt (S 8) r nP))))), (4, .int (nI (i + 1)))]) hX dB_breathIn_54 4 rfl (inc_nat _) (by decide) [1, 2, 3, 4, 0] rfl ?_
          refine g_goto hX 20 dB_breathIn_57 (by decide) ?_
          have e_3 : ((bsum S r (al (cnt (S 8) r nP)) i) + (bk (S 7 i) (al (cnt (S 8) r nP)))) = (bsum S r (al (cnt (S 8) r nP)) (i + 1)) := by simp [bsum, c_26, c_37]
          exact g_eq (rfl) (by rw [e_3]) rfl ih_i
    exact hL_20 0 (Nat.zero_le _)
  refine g_icmp_ne hX 13 dB_breathIn_6 (by decide) (fun c_6 => ?_) (fun c_6 => ?_)
  · refine g_iconst (v := 0) hX dB_breathIn_13 (by decide) ?_
    refine g_top (y := (al (cnt (S 8) r nP))) (by simp [al, c_6]) ?_
    exact hJ_14
  · refine g_iconst (v := 1) hX dB_breathIn_9 (by decide) ?_
    refine g_goto hX 14 dB_breathIn_10 (by decide) ?_
    refine g_top (y := (al (cnt (S 8) r nP))) (by simp [al, c_6]) ?_
    exact hJ_14
end

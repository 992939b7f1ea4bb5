/-! the Ways: by one place -/
theorem g_aald {X : XX} {Z : ZZ} {cc : ByteArray} {n : Nat} {own : String} {l0 : Launch} {d : Nat} {ws : va_W} {pc : Nat} {lv : List (Nat × Value)} {st : List Value} (hX : Okk X Z cc n own l0 d) {a N : Nat} {g : Nat → Option Nat} {i : Int32} {v : Nat} (q0 : Nat) (ha : ws[q0]? = some (a, .inl (zJ Z, N, .inr (.inr (.inr (.inr g)))))) (j : Nat) (hj : j < N) (hN : N < 2 ^ 31) (hi : i = nI j) (hv : g j = some v) (hd : decode cc pc = .ok (.aaload, 1)) (kk : G X Z ws (pc + 1) lv (.ref v :: st)) : G X Z ws pc lv (.int i :: .ref a :: st) := by
  obtain ⟨p, l, e, R, s, m, args, below, meth, c, kc, ks, Q, nL, A⟩ := X
  obtain ⟨hx, hb, hml, hown, hts, hK, hA, hlk, hE, hAB, hzB, hR, rfl, rfl⟩ := hX
  intro ls H locs h hP hD hS
  subst hi
  have kk1 := kk ls H locs h hP hD hS
  have e1 := nI_clamp (n := j) (by omega)
  refine W.aald (v := .ref v) (ty := .array .int) hx hb (hP q0 _ ha) ((hK.2 1 _ rfl).1 N (fun j => va_rf (g j))) rfl (fun q => by cases q) (by show ¬ (nI j < 0 ∨ (arrV _ _ _).slots.size ≤ _); rw [arrV_size]; exact vp_in_nI hj hN) (by show (arrV _ _ _).slots[_]? = _; rw [e1, arrV_read _ _ hj, hv]; rfl) rfl rfl hd kk1
theorem lt7 {j : Nat} (h : j < 7) : j = 0 ∨ j = 1 ∨ j = 2 ∨ j = 3 ∨ j = 4 ∨ j = 5 ∨ j = 6 := by omega
theorem rowatW (Z : ZZ) (h : Nat) (q : Nat → Nat) (S : St) {j : Nat} (hj : j < 7) : (wW Z h q S)[1 + j]? = some (q j, .inl (zI Z, 7, .inl (S j))) := by
  rcases lt7 hj with rfl | rfl | rfl | rfl | rfl | rfl | rfl <;> rfl
theorem setrowW (Z : ZZ) (h : Nat) (q : Nat → Nat) (S : St) {r : Nat} (hr : r < 7) (j : Nat) (x : Int32) : (wW Z h q S).set (1 + r) (q r, .inl (zI Z, 7, .inl (upd (S r) j x))) = wW Z h q (sw S r j x) := by
  rcases lt7 hr with rfl | rfl | rfl | rfl | rfl | rfl | rfl <;> rfl
theorem rowatWB (Z : ZZ) (h : Nat) (q : Nat → Nat) (S : St) (h2 : Nat) (q2 : Nat → Nat) (S2 : St) {j : Nat} (hj : j < 7) : (wW Z h q S ++ wB Z h2 q2 S2)[1 + j]? = some (q j, .inl (zI Z, 7, .inl (S j))) := by
  rcases lt7 hj with rfl | rfl | rfl | rfl | rfl | rfl | rfl <;> rfl
theorem setrowWB (Z : ZZ) (h : Nat) (q : Nat → Nat) (S : St) (h2 : Nat) (q2 : Nat → Nat) (S2 : St) {r : Nat} (hr : r < 7) (j : Nat) (x : Int32) : (wW Z h q S ++ wB Z h2 q2 S2).set (1 + r) (q r, .inl (zI Z, 7, .inl (upd (S r) j x))) = wW Z h q (sw S r j x) ++ wB Z h2 q2 S2 := by
  rcases lt7 hr with rfl | rfl | rfl | rfl | rfl | rfl | rfl <;> rfl
theorem rowatX (Z : ZZ) (a : Nat → Nat → Nat) (Sn Sm Sk T L U : St) {j : Nat} (hj : j < 7) : (wX Z a Sn Sm Sk T L U)[45 + j]? = some ((fun k => a 5 (k + 1)) j, .inl (zI Z, 7, .inl (L j))) := by
  rcases lt7 hj with rfl | rfl | rfl | rfl | rfl | rfl | rfl <;> rfl
/-- the lengths, as natural numbers -/
def Mat (S : St) (D : Nat → Nat → Nat) : Prop := ∀ a, a < 7 → ∀ b, b < 7 → S a b = nI (D a b)
def Cap (D : Nat → Nat → Nat) : Prop := ∀ a, a < 7 → ∀ b, b < 7 → D a b ≤ 1000000
theorem swv (S : St) (k i a b : Nat) (v : Int32) : sw S k i v a b = if a = k ∧ b = i then v else S a b := by
  unfold sw upd
  by_cases h : a = k <;> by_cases h2 : b = i <;> simp [h, h2]
theorem mn_nI {a b : Nat} (ha : a < 2 ^ 31) (hb : b < 2 ^ 31) : mn (nI a) (nI b) = nI (min a b) := by
  unfold mn
  by_cases h : b < a
  · rw [if_pos (nI_lt h (by omega)), Nat.min_eq_right (by omega)]
  · rw [if_neg (nI_nlt (by omega) hb), Nat.min_eq_left (by omega)]
theorem mx_nI {a b : Nat} (ha : a < 2 ^ 31) (hb : b < 2 ^ 31) : mx (nI a) (nI b) = nI (max a b) := by
  unfold mx
  by_cases h : a < b
  · rw [if_pos (nI_lt h (by omega)), Nat.max_eq_right (by omega)]
  · rw [if_neg (nI_nlt (by omega) ha), Nat.max_eq_left (by omega)]
def shD (D : Nat → Nat → Nat) (k : Nat) : Nat → Nat → Nat := fun a b => min (D a b) (D a k + D k b)
def SH (S T : St) (D : Nat → Nat → Nat) (k i j : Nat) : Prop := (∀ a, a < 7 → ∀ b, b < 7 → T a b = nI (if a < i ∨ (a = i ∧ b < j) then shD D k a b else D a b)) ∧ T 8 = S 8
theorem SH_start {S : St} {D : Nat → Nat → Nat} {k : Nat} (h : Mat S D) : SH S S D k 0 0 := ⟨fun a ha b hb => by rw [if_neg (by omega)]; exact h a ha b hb, rfl⟩
theorem SH_end {S T : St} {D : Nat → Nat → Nat} {k : Nat} (h : SH S T D k 7 0) : Mat T (shD D k) := fun a ha b hb => by rw [h.1 a ha b hb, if_pos (Or.inl ha)]
theorem SH_row {S T : St} {D : Nat → Nat → Nat} {k i : Nat} (h : SH S T D k i 7) : SH S T D k (i + 1) 0 := ⟨fun a ha b hb => by
  rw [h.1 a ha b hb]
  by_cases h1 : a < i ∨ (a = i ∧ b < 7)
  · rw [if_pos h1, if_pos (by omega)]
  · rw [if_neg h1, if_neg (by omega)], h.2⟩
theorem SH_here {S T : St} {D : Nat → Nat → Nat} {k i j : Nat} (h : SH S T D k i j) (hi : i < 7) (hj : j < 7) : T i j = nI (D i j) := by rw [h.1 i hi j hj, if_neg (by omega)]
theorem SH_ik {S T : St} {D : Nat → Nat → Nat} {k i j : Nat} (h : SH S T D k i j) (hk0 : D k k = 0) (hi : i < 7) (hk : k < 7) : T i k = nI (D i k) := by
  rw [h.1 i hi k hk]
  split
  · unfold shD
    rw [hk0, Nat.add_zero, Nat.min_self]
  · rfl
theorem SH_kj {S T : St} {D : Nat → Nat → Nat} {k i j : Nat} (h : SH S T D k i j) (hk0 : D k k = 0) (hj : j < 7) (hk : k < 7) : T k j = nI (D k j) := by
  rw [h.1 k hk j hj]
  split
  · unfold shD
    rw [hk0, Nat.zero_add, Nat.min_self]
  · rfl
theorem SH_step {S T : St} {D : Nat → Nat → Nat} {k i j : Nat} (h : SH S T D k i j) (hC : Cap D) (hi : i < 7) (hj : j < 7) (hk : k < 7) : SH S (sw T i j (mn (nI (D i j)) (nI (D i k + D k j)))) D k i (j + 1) := by
  have c1 := hC i hi j hj
  have c2 := hC i hi k hk
  have c3 := hC k hk j hj
  refine ⟨fun a ha b hb => ?_, by rw [sw_ne _ _ _ (by omega)]; exact h.2⟩
  rw [swv]
  by_cases e : a = i ∧ b = j
  · obtain ⟨rfl, rfl⟩ := e
    rw [if_pos ⟨rfl, rfl⟩, if_pos (by omega), mn_nI (by omega) (by omega)]
    rfl
  · rw [if_neg e, h.1 a ha b hb]
    by_cases h1 : a < i ∨ (a = i ∧ b < j)
    · rw [if_pos h1, if_pos (by omega)]
    · rw [if_neg h1, if_neg (by omega)]
def wayPost (Z : ZZ) (h : Nat) (q : Nat → Nat) (S : St) (D : Nat → Nat → Nat) : Option Value → va_W → Prop := fun v ws => v = none ∧ ∃ T, Mat T D ∧ T 8 = S 8 ∧ ws = wW Z h q T
set_option maxHeartbeats 4000000 in
set_option maxRecDepth 20000 in
theorem con_W_shortenBy (l : Launch) (Z : ZZ) (h : Nat) (q : Nat → Nat) (S : St) (D : Nat → Nat → Nat) (hM : Mat S D) (hC : Cap D) (k : Nat) (hk : k < 7) (hk0 : D k k = 0) : Con l Z yW_shortenBy cW_shortenBy 4 none 1 [.ref h, .int (nI k)] (wW Z h q S) (wayPost Z h q S (shD D k)) := by
  refine Con.of (by decide) (Nat.le_of_ble_eq_true rfl) (fun X hX hQ => ?_)
  show G X Z (wW Z h q S) 0 [(0, .ref h), (1, .int (nI k))] []
  refine g_iconst (v := 0) hX dW_shortenBy_0 (by decide) ?_
  refine g_istore_n (lv1 := [(0, .ref h), (1, .int (nI k)), (2, .int 0)]) hX dW_shortenBy_1 (by decide) [1, 2, 0] rfl ?_
  have hL_2 : ∀ i, i ≤ 7 → ∀ (T : St), SH S T D k i 0 → G X Z (wW Z h q T) 2 [(0, .ref h), (1, .int (nI k)), (2, .int (nI i))] [] := by
    refine loopUp _ 7 ?_ (fun i hi_i ih_i => ?_)
    · intro T hq_i
      refine g_iload_n hX dW_shortenBy_2 2 rfl ?_
      refine g_bipush (v := 7) hX dW_shortenBy_3 (by decide) ?_
      refine g_icmp_ge hX 64 dW_shortenBy_5 (by decide) (fun c_5 => ?_) (fun c_5 => absurd (nI_le (a := 7) (b := 7) (Nat.le_refl _) (by omega)) c_5)
      exact r_vret hX hQ dW_shortenBy_64 rfl (⟨rfl, T, SH_end hq_i, hq_i.2, rfl⟩)
    · intro T hq_i
      refine g_iload_n hX dW_shortenBy_2 2 rfl ?_
      refine g_bipush (v := 7) hX dW_shortenBy_3 (by decide) ?_
      refine g_icmp_ge hX 64 dW_shortenBy_5 (by decide) (fun c_5 => absurd c_5 (nI_ge (a := i) (b := 7) hi_i (by omega))) (fun c_5 => ?_)
      refine g_iconst (v := 0) hX dW_shortenBy_8 (by decide) ?_
      refine g_istore_n (lv1 := [(0, .ref h), (1, .int (nI k)), (2, .int (nI i)), (3, .int 0)]) hX dW_shortenBy_9 (by decide) [1, 2, 3, 0] rfl ?_
      have hL_10 : ∀ j, j ≤ 7 → ∀ (T : St), SH S T D k i j → G X Z (wW Z h q T) 10 [(0, .ref h), (1, .int (nI k)), (2, .int (nI i)), (3, .int (nI j))] [] := by
        refine loopUp _ 7 ?_ (fun j hi_j ih_j => ?_)
        · intro T hq_j
          refine g_iload_n hX dW_shortenBy_10 3 rfl ?_
          refine g_bipush (v := 7) hX dW_shortenBy_11 (by decide) ?_
          refine g_icmp_ge hX 58 dW_shortenBy_13 (by decide) (fun c_13 => ?_) (fun c_13 => absurd (nI_le (a := 7) (b := 7) (Nat.le_refl _) (by omega)) c_13)
          refine g_iinc (v := (nI (i + 1))) (lv1 := [(0, .ref h), (1, .int (nI k)), (2, .int (nI (i + 1))), (3, .int (nI 7))]) hX dW_shortenBy_58 2 rfl (inc_nat _) (by decide) [1, 2, 0, 3] rfl ?_
          refine g_goto hX 2 dW_shortenBy_61 (by decide) ?_
          refine g_lv (lv1 := [(0, .ref h), (1, .int (nI k)), (2, .int (nI (i + 1)))]) [0, 1, 2] rfl ?_
          exact ih_i T (SH_row hq_j)
        · intro T hq_j
          refine g_iload_n hX dW_shortenBy_10 3 rfl ?_
          refine g_bipush (v := 7) hX dW_shortenBy_11 (by decide) ?_
          refine g_icmp_ge hX 58 dW_shortenBy_13 (by decide) (fun c_13 => absurd c_13 (nI_ge (a := j) (b := 7) hi_j (by omega))) (fun c_13 => ?_)
          refine g_aload_n hX dW_shortenBy_16 0 rfl ?_
          refine g_get hX 0 rfl rfl 0 (by decide) uu_W q_123 rfl rfl dW_shortenBy_17 ?_
          refine g_iload_n hX dW_shortenBy_20 2 rfl ?_
          refine g_aald (v := q i) hX 8 rfl i (by omega) (by decide) (rfl) (if_pos (by omega)) dW_shortenBy_21 ?_
          refine g_iload_n hX dW_shortenBy_22 3 rfl ?_
          refine g_aload_n hX dW_shortenBy_23 0 rfl ?_
          refine g_get hX 0 rfl rfl 0 (by decide) uu_W q_123 rfl rfl dW_shortenBy_24 ?_
          refine g_iload_n hX dW_shortenBy_27 2 rfl ?_
          refine g_aald (v := q i) hX 8 rfl i (by omega) (by decide) (rfl) (if_pos (by omega)) dW_shortenBy_28 ?_
          refine g_iload_n hX dW_shortenBy_29 3 rfl ?_
          refine g_ald (v := (nI (D i j))) hX (1 + i) (rowatW Z h q T (by omega)) j (by omega) (by decide) (rfl) (SH_here hq_j hi_i hi_j) dW_shortenBy_30 ?_
          refine g_aload_n hX dW_shortenBy_31 0 rfl ?_
          refine g_get hX 0 rfl rfl 0 (by decide) uu_W q_123 rfl rfl dW_shortenBy_32 ?_
          refine g_iload_n hX dW_shortenBy_35 2 rfl ?_
          refine g_aald (v := q i) hX 8 rfl i (by omega) (by decide) (rfl) (if_pos (by omega)) dW_shortenBy_36 ?_
          refine g_iload_n hX dW_shortenBy_37 1 rfl ?_
          refine g_ald (v := (nI (D i k))) hX (1 + i) (rowatW Z h q T (by omega)) k (by omega) (by decide) (rfl) (SH_ik hq_j hk0 hi_i hk) dW_shortenBy_38 ?_
          refine g_aload_n hX dW_shortenBy_39 0 rfl ?_
          refine g_get hX 0 rfl rfl 0 (by decide) uu_W q_123 rfl rfl dW_shortenBy_40 ?_
          refine g_iload_n hX dW_shortenBy_43 1 rfl ?_
          refine g_aald (v := q k) hX 8 rfl k (by omega) (by decide) (rfl) (if_pos (by omega)) dW_shortenBy_44 ?_
          refine g_iload_n hX dW_shortenBy_45 3 rfl ?_
          refine g_ald (v := (nI (D k j))) hX (1 + k) (rowatW Z h q T (by omega)) j (by omega) (by decide) (rfl) (SH_kj hq_j hk0 hi_j hk) dW_shortenBy_46 ?_
          refine g_iadd (z := (nI ((D i k) + (D k j)))) hX dW_shortenBy_47 (nI_add (D i k) (D k j)) ?_
          refine g_mmin (z := (mn (nI (D i j)) (nI ((D i k) + (D k j))))) hX q_420 q_298 q_12 q_299 dW_shortenBy_48 (by decide) (Nat.le_of_ble_eq_true rfl) (rfl) ?_
          refine g_ast (ws1 := wW Z h q (sw T i j (mn (nI (D i j)) (nI ((D i k) + (D k j)))))) hX (1 + i) (rowatW Z h q T (by omega)) j (by omega) (by decide) (rfl) dW_shortenBy_51 (setrowW Z h q T (by omega) j (mn (nI (D i j)) (nI ((D i k) + (D k j))))) ?_
          refine g_iinc (v := (nI (j + 1))) (lv1 := [(0, .ref h), (1, .int (nI k)), (2, .int (nI i)), (3, .int (nI (j + 1)))]) hX dW_shortenBy_52 3 rfl (inc_nat _) (by decide) [1, 2, 3, 0] rfl ?_
          refine g_goto hX 10 dW_shortenBy_55 (by decide) ?_
          exact ih_j (sw T i j (mn (nI (D i j)) (nI ((D i k) + (D k j))))) (SH_step hq_j hC hi_i hi_j hk)
      exact hL_10 0 (Nat.zero_le _) T (hq_i)
  exact hL_2 0 (Nat.zero_le _) S (SH_start hM)

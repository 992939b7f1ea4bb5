/-! the Model: who can have suits -/
/-- the suits that are left, and whether so many people could have theirs -/
def uu (u : Nat → Nat) (j : Nat) : Nat := if j < 6 then u j else 0
def LFI (S V : St) (u : Nat → Nat) (i : Nat) : Prop := (∀ f, 1 ≤ f → f < i → V 21 f = nI (uu u f)) ∧ ∀ k, k ≠ 21 → V k = S k
theorem O21 {S V : St} (h : ∀ k, k ≠ 21 → V k = S k) : V = sr S 21 (V 21) := by
  funext k
  by_cases e : k = 21
  · subst e
    rw [sr_eq]
  · rw [sr_ne _ _ e]
    exact h k e
theorem LFI.step {S V : St} {u : Nat → Nat} {i : Nat} (h : LFI S V u i) : LFI S (sw V 21 i (nI (uu u i))) u (i + 1) := by
  refine ⟨fun f h1 h2 => ?_, fun k hk => by rw [sw_ne _ _ _ hk]; exact h.2 k hk⟩
  rw [swv]
  by_cases e : f = i
  · rw [if_pos ⟨rfl, e⟩, e]
  · rw [if_neg (fun q => e q.2)]
    exact h.1 f h1 (by omega)
theorem lt6_of {i : Nat} (hi : i < 7) (h : ¬ (6 : Int32) ≤ nI i) : i < 6 := by
  have h2 : ¬ nI 6 ≤ nI i := h
  rw [nI_leI (by omega) (by omega)] at h2
  omega
theorem uu_lo {u : Nat → Nat} {i : Nat} (hi : i < 7) (h : ¬ (6 : Int32) ≤ nI i) : nI (u i) = nI (uu u i) := by
  unfold uu
  rw [if_pos (lt6_of hi h)]
theorem uu_hi {u : Nat → Nat} {i : Nat} (hi : i < 7) (h : (6 : Int32) ≤ nI i) : (0 : Int32) = nI (uu u i) := by
  have h2 : nI 6 ≤ nI i := h
  rw [nI_leI (by omega) (by omega)] at h2
  unfold uu
  rw [if_neg (by omega)]
  rfl
theorem uu_le {u : Nat → Nat} (hu5 : ∀ f, u f ≤ 5) (j : Nat) : uu u j ≤ 5 := by
  have := hu5 j
  unfold uu
  split <;> omega
def kf (S : St) (x : Int32) (f : Nat) : Nat → Nat
  | 0 => 0
  | n + 1 => if hasS x (nI n) = 0 then kf S x f n else if S 9 n = nI f then kf S x f n + 1 else kf S x f n
theorem kf_mono (S : St) (x : Int32) (f : Nat) : ∀ m n, n ≤ m → kf S x f n ≤ kf S x f m
  | 0, n, h => by
    rw [show n = 0 by omega]
    exact Nat.le_refl _
  | m + 1, n, h => by
    by_cases e : n = m + 1
    · rw [e]
      exact Nat.le_refl _
    · have ih := kf_mono S x f m n (by omega)
      refine Nat.le_trans ih ?_
      rw [kf]
      split
      · exact Nat.le_refl _
      · split
        · omega
        · exact Nat.le_refl _
theorem kf_le (S : St) (x : Int32) (f : Nat) : ∀ n, kf S x f n ≤ n
  | 0 => Nat.le_refl _
  | n + 1 => by
    have := kf_le S x f n
    rw [kf]
    split
    · omega
    · split <;> omega
def cvL (S : St) (x : Int32) (nP : Nat) (u : Nat → Nat) : Nat → Nat → Nat → Int32
  | 0, _, _ => 1
  | r + 1, f, l => if kf S x f nP - l ≤ uu u (f + 1) then cvL S x nP u r (f + 1) (uu u (f + 1) - (kf S x f nP - l)) else 0
def CF (S V : St) (x : Int32) (nP : Nat) (u : Nat → Nat) (f l : Nat) : Prop := V 21 f = nI l ∧ l ≤ 5 ∧ (∀ j, f < j → j < 7 → V 21 j = nI (uu u j)) ∧ (∀ k, k ≠ 21 → V k = S k) ∧ cvL S x nP u (6 - f) f l = cvL S x nP u 5 1 (u 1)
def CH (S V : St) (u : Nat → Nat) (f l k : Nat) : Prop := V 21 f = nI (l - k) ∧ V 21 (f + 1) = nI (uu u (f + 1) - (k - l)) ∧ k - l ≤ uu u (f + 1) ∧ (∀ j, f + 1 < j → j < 7 → V 21 j = nI (uu u j)) ∧ (∀ k, k ≠ 21 → V k = S k)
theorem CF.start {S V : St} {x : Int32} {nP : Nat} {u : Nat → Nat} (h : LFI S V u 7) (hu5 : ∀ f, u f ≤ 5) : CF S V x nP u 1 (u 1) := ⟨h.1 1 (by omega) (by omega), hu5 1, fun j h1 h2 => h.1 j (by omega) h2, h.2, rfl⟩
theorem CF.in_ {S V : St} {x : Int32} {nP f l : Nat} {u : Nat → Nat} (h : CF S V x nP u f l) (hf : f < 6) : CH S V u f l 0 := ⟨h.1, by rw [Nat.zero_sub, Nat.sub_zero]; exact h.2.2.1 (f + 1) (by omega) (by omega), by omega, fun j h1 h2 => h.2.2.1 j (by omega) h2, h.2.2.2.1⟩
theorem CF.out_ {S V V' : St} {x : Int32} {nP f l : Nat} {u : Nat → Nat} (h : CF S V x nP u f l) (hf : f < 6) (hu5 : ∀ f, u f ≤ 5) (h' : CH S V' u f l (kf S x f nP)) : CF S V' x nP u (f + 1) (uu u (f + 1) - (kf S x f nP - l)) := by
  have := uu_le hu5 (f + 1)
  refine ⟨h'.2.1, by omega, h'.2.2.2.1, h'.2.2.2.2, ?_⟩
  rw [← h.2.2.2.2, show 6 - f = (6 - (f + 1)) + 1 by omega, cvL, if_pos h'.2.2.1]
theorem CH.same {S V : St} {u : Nat → Nat} {f l k k' : Nat} (h : CH S V u f l k) (e : k' = k) : CH S V u f l k' := by rw [e]; exact h
theorem CH.one {S V : St} {u : Nat → Nat} {f l k k' : Nat} (h : CH S V u f l k) (e : k' = k + 1) (hp : ¬ nI (l - k) ≤ 0) (hl : l ≤ 5) : CH S (sw V 21 f (nI (l - (k + 1)))) u f l k' := by
  subst e
  have h2 : ¬ nI (l - k) ≤ nI 0 := hp
  rw [nI_leI (by omega) (by omega)] at h2
  refine ⟨by rw [swv, if_pos ⟨rfl, rfl⟩], ?_, by omega, fun j h3 h4 => ?_, fun z hz => by rw [sw_ne _ _ _ hz]; exact h.2.2.2.2 z hz⟩
  · rw [swv, if_neg (by omega), h.2.1, show k + 1 - l = k - l by omega]
  · rw [swv, if_neg (by omega)]
    exact h.2.2.2.1 j h3 h4
theorem CH.two {S V : St} {u : Nat → Nat} {f l k k' : Nat} (h : CH S V u f l k) (e : k' = k + 1) (hp : nI (l - k) ≤ 0) (hl : l ≤ 5) (hz : ¬ nI (uu u (f + 1) - (k - l)) = 0) (hu5 : ∀ f, u f ≤ 5) : CH S (sw V 21 (f + 1) (nI (uu u (f + 1) - (k + 1 - l)))) u f l k' := by
  subst e
  have h2 : nI (l - k) ≤ nI 0 := hp
  rw [nI_leI (by omega) (by omega)] at h2
  have h5 := uu_le hu5 (f + 1)
  have h3 : uu u (f + 1) - (k - l) ≠ 0 := fun q => hz (by rw [q]; rfl)
  refine ⟨?_, by rw [swv, if_pos ⟨rfl, rfl⟩], by omega, fun j h4 h6 => ?_, fun z hz => by rw [sw_ne _ _ _ hz]; exact h.2.2.2.2 z hz⟩
  · rw [swv, if_neg (by omega), h.1, show l - k = l - (k + 1) by omega]
  · rw [swv, if_neg (by omega)]
    exact h.2.2.2.1 j h4 h6
theorem ch_no {S V0 V : St} {x : Int32} {nP f l p : Nat} {u : Nat → Nat} (h0 : CF S V0 x nP u f l) (hf : f < 6) (h : CH S V u f l (kf S x f p)) (hp : p < nP) (hk : kf S x f (p + 1) = kf S x f p + 1) (hle : nI (l - kf S x f p) ≤ 0) (hz : nI (uu u (f + 1) - (kf S x f p - l)) = 0) (hu5 : ∀ f, u f ≤ 5) : (0 : Int32) = cvL S x nP u 5 1 (u 1) := by
  have h2 : nI (l - kf S x f p) ≤ nI 0 := hle
  have hl := h0.2.1
  have h5 := uu_le hu5 (f + 1)
  rw [nI_leI (by omega) (by omega)] at h2
  have h3 : nI (uu u (f + 1) - (kf S x f p - l)) = nI 0 := hz
  rw [nI_eq (by omega) (by omega)] at h3
  have h6 := kf_mono S x f nP (p + 1) (by omega)
  have h7 := h.2.2.1
  rw [← h0.2.2.2.2, show 6 - f = (6 - (f + 1)) + 1 by omega, cvL, if_neg (by omega)]
theorem cv_end {S V : St} {x : Int32} {nP l : Nat} {u : Nat → Nat} (h : CF S V x nP u 6 l) : (1 : Int32) = cvL S x nP u 5 1 (u 1) := h.2.2.2.2
theorem kf_1 {S : St} {x : Int32} {f n : Nat} (h : hasS x (nI n) = 0) : kf S x f (n + 1) = kf S x f n := by rw [kf, if_pos h]
theorem kf_2 {S : St} {x : Int32} {f n : Nat} (h : ¬ hasS x (nI n) = 0) (h2 : ¬ S 9 n = nI f) : kf S x f (n + 1) = kf S x f n := by rw [kf, if_neg h, if_neg h2]
theorem kf_3 {S : St} {x : Int32} {f n : Nat} (h : ¬ hasS x (nI n) = 0) (h2 : S 9 n = nI f) : kf S x f (n + 1) = kf S x f n + 1 := by rw [kf, if_neg h, if_pos h2]
theorem cvL_01 (S : St) (x : Int32) (nP : Nat) (u : Nat → Nat) : ∀ r f l, cvL S x nP u r f l = 0 ∨ cvL S x nP u r f l = 1
  | 0, _, _ => Or.inr rfl
  | r + 1, f, l => by
    rw [cvL]
    exact ite01 (cvL_01 S x nP u r _ _) (Or.inl rfl)
/-- it is what the class has -/
theorem mem_n : ∀ n, n ≤ 5 → ∀ w, w < 2 ^ n → ∀ p, p < n → (hasS (nI (2 ^ n - 1) &&& (nI w ^^^ (-1))) (nI p) = 0 ↔ ¬ ((nI w >>> (nI p &&& 31)) &&& 1) = 0) := by decide +kernel
theorem pof_kf {S : St} {nP w : Nat} (hP5 : nP ≤ 5) (hw : w < 2 ^ nP) (f : Nat) : ∀ n, n ≤ nP → pof S (nI f) (nI w) n = nI (kf S (nI (2 ^ nP - 1) &&& (nI w ^^^ (-1))) f n)
  | 0, _ => rfl
  | n + 1, hn => by
    have ih := pof_kf (S := S) hP5 hw f n (by omega)
    have hm := mem_n nP hP5 w hw n (by omega)
    rw [pof, kf, ih]
    by_cases h9 : S 9 n = nI f
    · by_cases hb : ((nI w >>> (nI n &&& 31)) &&& 1) = 0
      · rw [if_neg (fun q => q h9), if_neg (fun q => q hb), if_neg (fun q => hm.mp q hb), if_pos h9, nI_1]
      · rw [if_neg (fun q => q h9), if_pos hb, if_pos (hm.mpr hb)]
    · rw [if_pos h9, if_neg h9]
      split <;> rfl
theorem mx_0 {a b : Nat} (ha : a < 2 ^ 30) (hb : b < 2 ^ 30) : mx 0 (nI a - nI b) = nI (a - b) := by
  unfold mx
  have e := pk_sub_toInt ha hb
  by_cases h : 0 < nI a - nI b
  · rw [if_pos h]
    rw [Int32.lt_iff_toInt_lt, e] at h
    have e0 : (0 : Int32).toInt = 0 := by decide
    rw [e0] at h
    exact pk_sub (by omega)
  · rw [if_neg h]
    rw [Int32.lt_iff_toInt_lt, e] at h
    have e0 : (0 : Int32).toInt = 0 := by decide
    rw [e0] at h
    rw [show a - b = 0 by omega]
    rfl
theorem le_sub0 {a b : Nat} (ha : a < 2 ^ 30) (hb : b < 2 ^ 30) : 0 ≤ nI a - nI b ↔ b ≤ a := by
  have e := pk_sub_toInt ha hb
  rw [Int32.le_iff_toInt_le, e]
  have e0 : (0 : Int32).toInt = 0 := by decide
  rw [e0]
  omega
theorem cv_en {S : St} {nP w : Nat} {u : Nat → Nat} (hP5 : nP ≤ 5) (hw : w < 2 ^ nP) (hu : ∀ f, 1 ≤ f → f < 6 → S 11 f = nI (u f)) (hu5 : ∀ f, u f ≤ 5) : ∀ r f l, f + r = 5 → l ≤ 5 → cvL S (nI (2 ^ nP - 1) &&& (nI w ^^^ (-1))) nP u (r + 1) f l = enL S nP (nI w) r (f + 1) (nI (kf S (nI (2 ^ nP - 1) &&& (nI w ^^^ (-1))) f nP - l))
  | 0, f, l, hf, hl => by
    have hk := kf_le S (nI (2 ^ nP - 1) &&& (nI w ^^^ (-1))) f nP
    rw [cvL, cvL, enL]
    have e6 : uu u (f + 1) = 0 := if_neg (by omega)
    rw [e6]
    unfold one0
    by_cases h : kf S (nI (2 ^ nP - 1) &&& (nI w ^^^ (-1))) f nP - l ≤ 0
    · rw [if_pos h, show kf S (nI (2 ^ nP - 1) &&& (nI w ^^^ (-1))) f nP - l = 0 by omega]
      rfl
    · rw [if_neg h, if_neg (fun q => by
        have q2 : nI (kf S (nI (2 ^ nP - 1) &&& (nI w ^^^ (-1))) f nP - l) = nI 0 := q
        rw [nI_eq (by omega) (by omega)] at q2
        omega)]
  | r + 1, f, l, hf, hl => by
    have hk := kf_le S (nI (2 ^ nP - 1) &&& (nI w ^^^ (-1))) f nP
    have h5 := hu5 (f + 1)
    have eu : uu u (f + 1) = u (f + 1) := if_pos (by omega)
    have hk2 := kf_le S (nI (2 ^ nP - 1) &&& (nI w ^^^ (-1))) (f + 1) nP
    rw [cvL, enL, hu (f + 1) (by omega) (by omega), pof_kf hP5 hw (f + 1) nP (Nat.le_refl _), eu]
    generalize hx : kf S (nI (2 ^ nP - 1) &&& (nI w ^^^ (-1))) f nP - l = z at *
    by_cases h : z ≤ u (f + 1)
    · rw [if_pos h, if_pos ((le_sub0 (by omega) (by omega)).mpr h), cv_en hP5 hw hu hu5 r (f + 1) _ (by omega) (by omega), pk_sub h, mx_0 (by omega) (by omega)]
    · rw [if_neg h, if_neg (fun q => h ((le_sub0 (by omega) (by omega)).mp q))]
theorem cv_enough {S : St} {nP w : Nat} {u : Nat → Nat} (hP5 : nP ≤ 5) (hw : w < 2 ^ nP) (hu : ∀ f, 1 ≤ f → f < 6 → S 11 f = nI (u f)) (hu5 : ∀ f, u f ≤ 5) : cvL S (nI (2 ^ nP - 1) &&& (nI w ^^^ (-1))) nP u 5 1 (u 1) = enough S nP (nI w) := by
  have h1 := hu5 1
  have hk := kf_le S (nI (2 ^ nP - 1) &&& (nI w ^^^ (-1))) 1 nP
  rw [cv_en hP5 hw hu hu5 4 1 (u 1) rfl h1]
  unfold enough
  rw [show enL S nP (nI w) 5 1 0 = if 0 ≤ S 11 1 - 0 then enL S nP (nI w) 4 2 (mx 0 (pof S (nI 1) (nI w) nP - (S 11 1 - 0))) else 0 from rfl, hu 1 (by omega) (by omega), pof_kf hP5 hw 1 nP (Nat.le_refl _), show (0 : Int32) = nI 0 from rfl, pk_sub (Nat.zero_le _), Nat.sub_zero, if_pos (nI_le (Nat.zero_le _) (by omega))]
  rw [show mx (nI 0) (nI (kf S (nI (2 ^ nP - 1) &&& (nI w ^^^ (-1))) 1 nP) - nI (u 1)) = nI (kf S (nI (2 ^ nP - 1) &&& (nI w ^^^ (-1))) 1 nP - u 1) from mx_0 (by omega) (by omega)]
def cvP (Z : ZZ) (h : Nat) (q : Nat → Nat) (S : St) (v : Int32) : Option Value → va_W → Prop := fun v' ws => v' = some (.int v) ∧ ∃ F, ws = wM Z h q (sr S 21 F)
theorem cvP_mk {Z : ZZ} {h : Nat} {q : Nat → Nat} {S V : St} {v v0 : Int32} (e : v0 = v) (hV : ∀ k, k ≠ 21 → V k = S k) : cvP Z h q S v (some (.int v0)) (wM Z h q V) := ⟨by rw [e], V 21, congrArg (wM Z h q) (O21 hV)⟩
theorem one_le {n : Nat} (h : ¬ nI n ≤ 0) : 1 ≤ n := by
  rcases Nat.eq_zero_or_pos n with e | e
  · exact absurd (by rw [e]; decide) h
  · exact e
theorem dec2 {l k z : Nat} (h : nI (l - k) ≤ 0) (hz : ¬ nI (z - (k - l)) = 0) (hl : l ≤ 5) : nI (z - (k - l)) - 1 = nI (z - (k + 1 - l)) := by
  have h2 : nI (l - k) ≤ nI 0 := h
  rw [nI_leI (by omega) (by omega)] at h2
  have h3 : z - (k - l) ≠ 0 := fun q => hz (by rw [q]; rfl)
  rw [show z - (k + 1 - l) = z - (k - l) - 1 by omega]
  exact pk_sub (a := z - (k - l)) (b := 1) (by omega)
def fbL (S : St) (nP all : Nat) : Nat → Nat
  | 0 => all
  | i + 1 => if pc5 (all - i) ≤ pc5 (fbL S nP all i) ∧ ¬ enough S nP (nI (all - i)) = 0 then all - i else fbL S nP all i
theorem fbL_le (S : St) (nP all : Nat) : ∀ i, fbL S nP all i ≤ all
  | 0 => Nat.le_refl _
  | i + 1 => by
    rw [fbL]
    split
    · omega
    · exact fbL_le S nP all i
theorem fb_gt {S : St} {nP all i : Nat} (h : nI (pc5 (fbL S nP all i)) < nI (pc5 (all - i))) : fbL S nP all i = fbL S nP all (i + 1) := by
  have h1 := pc5_le (fbL S nP all i)
  have h2 := pc5_le (all - i)
  rw [nI_ltI (by omega) (by omega)] at h
  rw [fbL, if_neg (fun q => by omega)]
theorem fb_no {S : St} {nP all i : Nat} (h : enough S nP (nI (all - i)) = 0) : fbL S nP all i = fbL S nP all (i + 1) := by
  rw [fbL, if_neg (fun q => q.2 h)]
theorem fb_yes {S : St} {nP all i : Nat} (h : ¬ nI (pc5 (fbL S nP all i)) < nI (pc5 (all - i))) (h2 : ¬ enough S nP (nI (all - i)) = 0) : all - i = fbL S nP all (i + 1) := by
  have h3 := pc5_le (fbL S nP all i)
  have h4 := pc5_le (all - i)
  rw [nI_ltI (by omega) (by omega)] at h
  rw [fbL, if_pos ⟨by omega, h2⟩]
theorem pc5_top : ∀ n, n ≤ 5 → ∀ w, w < 2 ^ n - 1 → pc5 w < pc5 (2 ^ n - 1) := by decide
def Bst (S : St) (nP all B : Nat) (P : Nat → Prop) : Prop := (B = all ∨ (B < all ∧ P B ∧ ¬ enough S nP (nI B) = 0)) ∧ ∀ w, w < all → P w → ¬ enough S nP (nI w) = 0 → pc5 B < pc5 w ∨ (pc5 B = pc5 w ∧ B ≤ w)
theorem lb_best {S : St} {nP : Nat} (hP5 : nP ≤ 5) : ∀ n, n ≤ 2 ^ nP - 1 → Bst S nP (2 ^ nP - 1) (lbS S nP (2 ^ nP - 1) n) (fun w => w < n)
  | 0, _ => ⟨Or.inl rfl, fun w _ h => absurd h (Nat.not_lt_zero _)⟩
  | n + 1, hn => by
    obtain ⟨h1, h2⟩ := lb_best (S := S) hP5 n (by omega)
    rw [lbS]
    by_cases hc : pc5 n < pc5 (lbS S nP (2 ^ nP - 1) n) ∧ ¬ enough S nP (nI n) = 0
    · rw [if_pos hc]
      refine ⟨Or.inr ⟨by omega, by omega, hc.2⟩, fun w hw hwn ho => ?_⟩
      by_cases e : w = n
      · rw [e]
        exact Or.inr ⟨rfl, Nat.le_refl _⟩
      · have := h2 w hw (by omega) ho
        omega
    · rw [if_neg hc]
      refine ⟨?_, fun w hw hwn ho => ?_⟩
      · rcases h1 with h1 | ⟨a, b, c9⟩
        · exact Or.inl h1
        · exact Or.inr ⟨a, by omega, c9⟩
      · by_cases e : w = n
        · rw [e] at ho ⊢
          have hlt : ¬ pc5 n < pc5 (lbS S nP (2 ^ nP - 1) n) := fun q => hc ⟨q, ho⟩
          rcases h1 with h1 | ⟨a, b, c9⟩
          · have := pc5_top nP hP5 n (by omega)
            rw [h1] at hlt
            exact absurd this hlt
          · omega
        · exact h2 w hw (by omega) ho
theorem fb_best {S : St} {nP : Nat} (hP5 : nP ≤ 5) : ∀ i, i ≤ 2 ^ nP → Bst S nP (2 ^ nP - 1) (fbL S nP (2 ^ nP - 1) i) (fun w => 2 ^ nP - 1 < w + i) 
  | 0, _ => ⟨Or.inl rfl, fun w hw h => by omega⟩
  | i + 1, hi => by
    obtain ⟨h1, h2⟩ := fb_best (S := S) hP5 i (by omega)
    rw [fbL]
    by_cases hc : pc5 (2 ^ nP - 1 - i) ≤ pc5 (fbL S nP (2 ^ nP - 1) i) ∧ ¬ enough S nP (nI (2 ^ nP - 1 - i)) = 0
    · rw [if_pos hc]
      refine ⟨?_, fun w hw hwn ho => ?_⟩
      · by_cases e : i = 0
        · exact Or.inl (by rw [e]; rfl)
        · exact Or.inr ⟨by omega, by omega, hc.2⟩
      · by_cases e : w = 2 ^ nP - 1 - i
        · rw [e]
          exact Or.inr ⟨rfl, Nat.le_refl _⟩
        · have := h2 w hw (by omega) ho
          omega
    · rw [if_neg hc]
      refine ⟨?_, fun w hw hwn ho => ?_⟩
      · rcases h1 with h1 | ⟨a, b, c9⟩
        · exact Or.inl h1
        · exact Or.inr ⟨a, by omega, c9⟩
      · by_cases e : w = 2 ^ nP - 1 - i
        · rw [e] at ho ⊢
          have : ¬ pc5 (2 ^ nP - 1 - i) ≤ pc5 (fbL S nP (2 ^ nP - 1) i) := fun q => hc ⟨q, ho⟩
          omega
        · exact h2 w hw (by omega) ho
theorem fb_lb {S : St} {nP : Nat} (hP5 : nP ≤ 5) : fbL S nP (2 ^ nP - 1) (2 ^ nP) = leastBareS S nP := by
  obtain ⟨a1, a2⟩ := fb_best (S := S) hP5 (2 ^ nP) (Nat.le_refl _)
  obtain ⟨b1, b2⟩ := lb_best (S := S) hP5 (2 ^ nP - 1) (Nat.le_refl _)
  unfold leastBareS
  have hp : 0 < 2 ^ nP := Nat.two_pow_pos nP
  rcases a1 with a1 | ⟨a3, a4, a5⟩
  · rcases b1 with b1 | ⟨b3, b4, b5⟩
    · rw [a1, b1]
    · have h1 := a2 _ b3 (by omega) b5
      have h2 := pc5_top nP hP5 _ b3
      rw [a1] at h1
      omega
  · rcases b1 with b1 | ⟨b3, b4, b5⟩
    · have h1 := b2 _ a3 a3 a5
      have h2 := pc5_top nP hP5 _ a3
      rw [b1] at h1
      omega
    · have h1 := a2 _ b3 (by omega) b5
      have h2 := b2 _ a3 a3 a5
      omega
theorem enough_cong {S V : St} {nP : Nat} (h9 : V 9 = S 9) (h11 : V 11 = S 11) (bits : Int32) : enough V nP bits = enough S nP bits := by
  have hp : ∀ f n, pof V f bits n = pof S f bits n := by
    intro f n
    induction n with
    | zero => rfl
    | succ n ih => rw [pof, pof, ih, h9]
  have hl : ∀ r f x, enL V nP bits r f x = enL S nP bits r f x := by
    intro r
    induction r with
    | zero => intro f x; rfl
    | succ r ih => intro f x; rw [enL, enL, ih, hp, h11]
  exact hl 5 1 0
set_option maxHeartbeats 4000000 in
set_option maxRecDepth 20000 in
theorem con_M_canHave (l : Launch) (Z : ZZ) (h : Nat) (q : Nat → Nat) (S : St) (x : Int32) (nP : Nat) (hP : S 12 1 = nI nP) (hP5 : nP ≤ 5) (u : Nat → Nat) (hu : ∀ f, 1 ≤ f → f < 6 → S 11 f = nI (u f)) (hu5 : ∀ f, u f ≤ 5) : Con l Z yM_canHave cM_canHave 5 (some .boolean) 1 [.ref h, .int x] (wM Z h q S) (cvP Z h q S (cvL S x nP u 5 1 (u 1))) := by
  refine Con.of (by decide) (Nat.le_of_ble_eq_true rfl) (fun X hX hQ => ?_)
  show G X Z (wM Z h q S) 0 [(0, .ref h), (1, .int x)] []
  refine g_iconst (v := 1) hX dM_canHave_0 (by decide) ?_
  refine g_istore_n (lv1 := [(0, .ref h), (1, .int x), (2, .int 1)]) hX dM_canHave_1 (by decide) [1, 2, 0] rfl ?_
  have hL_2 : ∀ i0, i0 ≤ 7 → ∀ (V9 : St), LFI S V9 u i0 ∧ 1 ≤ i0 → G X Z (wM Z h q V9) 2 [(0, .ref h), (1, .int x), (2, .int (nI i0))] [] := by
    refine loopUp _ 7 ?_ (fun i0 hi_i0 ih_i0 => ?_)
    · intro V9 hq_i0
      refine g_iload_n hX dM_canHave_2 2 rfl ?_
      refine g_bipush (v := 7) hX dM_canHave_3 (by decide) ?_
      refine g_icmp_ge hX 36 dM_canHave_5 (by decide) (fun c_5 => ?_) (fun c_5 => absurd (nI_le (a := 7) (b := 7) (Nat.le_refl _) (by omega)) c_5)
      refine g_iconst (v := 1) hX dM_canHave_36 (by decide) ?_
      refine g_istore_n (lv1 := [(0, .ref h), (1, .int x), (2, .int 1)]) hX dM_canHave_37 (by decide) [1, 2, 0] rfl ?_
      have hL_38 : ∀ f0, f0 ≤ 6 → ∀ (V0 : St) (l0 : Nat), CF S V0 x nP u f0 l0 ∧ 1 ≤ f0 → G X Z (wM Z h q V0) 38 [(0, .ref h), (1, .int x), (2, .int (nI f0))] [] := by
        refine loopUp _ 6 ?_ (fun f0 hi_f0 ih_f0 => ?_)
        · intro V0 l0 hq_f0
          refine g_iload_n hX dM_canHave_38 2 rfl ?_
          refine g_bipush (v := 6) hX dM_canHave_39 (by decide) ?_
          refine g_icmp_ge hX 128 dM_canHave_41 (by decide) (fun c_41 => ?_) (fun c_41 => absurd (nI_le (a := 6) (b := 6) (Nat.le_refl _) (by omega)) c_41)
          refine g_iconst (v := 1) hX dM_canHave_128 (by decide) ?_
          exact r_zret hX hQ (rfl) dM_canHave_129 keysM (cvP_mk (cv_end hq_f0.1) hq_f0.1.2.2.2.1)
        · intro V0 l0 hq_f0
          refine g_iload_n hX dM_canHave_38 2 rfl ?_
          refine g_bipush (v := 6) hX dM_canHave_39 (by decide) ?_
          refine g_icmp_ge hX 128 dM_canHave_41 (by decide) (fun c_41 => absurd c_41 (nI_ge (a := f0) (b := 6) hi_f0 (by omega))) (fun c_41 => ?_)
          refine g_iconst (v := 0) hX dM_canHave_44 (by decide) ?_
          refine g_istore_n (lv1 := [(0, .ref h), (1, .int x), (2, .int (nI f0)), (3, .int 0)]) hX dM_canHave_45 (by decide) [1, 2, 3, 0] rfl ?_
          have hL_46 : ∀ p0, p0 ≤ nP → ∀ (V1 : St), CH S V1 u f0 l0 (kf S x f0 p0) → G X Z (wM Z h q V1) 46 [(0, .ref h), (1, .int x), (2, .int (nI f0)), (3, .int (nI p0))] [] := by
            refine loopUp _ nP ?_ (fun p0 hi_p0 ih_p0 => ?_)
            · intro V1 hq_p0
              refine g_iload_n hX dM_canHave_46 3 rfl ?_
              refine g_aload_n hX dM_canHave_47 0 rfl ?_
              refine g_get hX 0 rfl rfl 8 (by decide) uu_M q_592 rfl rfl dM_canHave_48 ?_
              refine g_top (y := (nI nP)) (by rw [hq_p0.2.2.2.2 12 (by decide)]; exact hP) ?_
              refine g_icmp_ge hX 122 dM_canHave_51 (by decide) (fun c_51 => ?_) (fun c_51 => absurd (nI_le (a := nP) (b := nP) (Nat.le_refl _) (by omega)) c_51)
              refine g_iinc (v := (nI (f0 + 1))) (lv1 := [(0, .ref h), (1, .int x), (2, .int (nI (f0 + 1))), (3, .int (nI nP))]) hX dM_canHave_122 2 rfl (inc_nat _) (by decide) [1, 2, 0, 3] rfl ?_
              refine g_goto hX 38 dM_canHave_125 (by decide) ?_
              refine g_lv (lv1 := [(0, .ref h), (1, .int x), (2, .int (nI (f0 + 1)))]) [0, 1, 2] rfl ?_
              exact ih_f0 V1 (uu u (f0 + 1) - (kf S x f0 nP - l0)) (⟨hq_f0.1.out_ hi_f0 hu5 hq_p0, by omega⟩)
            · intro V1 hq_p0
              refine g_iload_n hX dM_canHave_46 3 rfl ?_
              refine g_aload_n hX dM_canHave_47 0 rfl ?_
              refine g_get hX 0 rfl rfl 8 (by decide) uu_M q_592 rfl rfl dM_canHave_48 ?_
              refine g_top (y := (nI nP)) (by rw [hq_p0.2.2.2.2 12 (by decide)]; exact hP) ?_
              refine g_icmp_ge hX 122 dM_canHave_51 (by decide) (fun c_51 => absurd c_51 (nI_ge (a := p0) (b := nP) hi_p0 (by omega))) (fun c_51 => ?_)
              refine g_iload_n hX dM_canHave_54 1 rfl ?_
              refine g_iload_n hX dM_canHave_55 3 rfl ?_
              refine g_callS hX (con_M_has l Z x (nI p0)) msM_has q_875 rfl (by decide) rfl (Nat.le_of_ble_eq_true rfl) dM_canHave_56 [] rfl (rfl) (g_fn (ws1 := wM Z h q V1) (st1 := [.int (hasS x (nI p0))]) (rfl) rfl ?_)
              refine g_if_eq hX 116 dM_canHave_59 (by decide) (fun c_59 => ?_) (fun c_59 => ?_)
              · refine g_iinc (v := (nI (p0 + 1))) (lv1 := [(0, .ref h), (1, .int x), (2, .int (nI f0)), (3, .int (nI (p0 + 1)))]) hX dM_canHave_116 3 rfl (inc_nat _) (by decide) [1, 2, 3, 0] rfl ?_
                refine g_goto hX 46 dM_canHave_119 (by decide) ?_
                exact ih_p0 V1 (hq_p0.same (kf_1 c_59))
              · refine g_aload_n hX dM_canHave_62 0 rfl ?_
                refine g_get hX 0 rfl rfl 11 (by decide) uu_M q_595 rfl rfl dM_canHave_63 ?_
                refine g_iload_n hX dM_canHave_66 3 rfl ?_
                refine g_ald (v := (S 9 p0)) hX 10 rfl p0 (by omega) (by decide) (rfl) (congrFun (hq_p0.2.2.2.2 9 (by decide)) p0) dM_canHave_67 ?_
                refine g_iload_n hX dM_canHave_68 2 rfl ?_
                refine g_icmp_eq hX 75 dM_canHave_69 (by decide) (fun c_69 => ?_) (fun c_69 => ?_)
                · refine g_aload_n hX dM_canHave_75 0 rfl ?_
                  refine g_get hX 0 rfl rfl 28 (by decide) uu_M q_612 rfl rfl dM_canHave_76 ?_
                  refine g_iload_n hX dM_canHave_79 2 rfl ?_
                  refine g_ald (v := (nI (l0 - kf S x f0 p0))) hX 21 rfl f0 (by omega) (by decide) (rfl) (hq_p0.1) dM_canHave_80 ?_
                  refine g_if_le hX 88 dM_canHave_81 (by decide) (fun c_81 => ?_) (fun c_81 => ?_)
                  · refine g_iload_n hX dM_canHave_88 2 rfl ?_
                    refine g_iconst (v := 1) hX dM_canHave_89 (by decide) ?_
                    refine g_iadd (z := (nI (f0 + 1))) hX dM_canHave_90 (nI_add f0 1) ?_
                    refine g_istore (lv1 := [(0, .ref h), (1, .int x), (2, .int (nI f0)), (3, .int (nI p0)), (4, .int (nI (f0 + 1)))]) hX dM_canHave_91 (by decide) [1, 2, 3, 4, 0] rfl ?_
                    refine g_aload_n hX dM_canHave_93 0 rfl ?_
                    refine g_get hX 0 rfl rfl 28 (by decide) uu_M q_612 rfl rfl dM_canHave_94 ?_
                    refine g_iload hX dM_canHave_97 4 rfl ?_
                    refine g_ald (v := (nI (uu u (f0 + 1) - (kf S x f0 p0 - l0)))) hX 21 rfl (f0 + 1) (by omega) (by decide) (rfl) (hq_p0.2.1) dM_canHave_99 ?_
                    refine g_if_ne hX 105 dM_canHave_100 (by decide) (fun c_100 => ?_) (fun c_100 => ?_)
                    · refine g_aload_n hX dM_canHave_105 0 rfl ?_
                      refine g_get hX 0 rfl rfl 28 (by decide) uu_M q_612 rfl rfl dM_canHave_106 ?_
                      refine g_iload hX dM_canHave_109 4 rfl ?_
                      refine g_dup2 hX dM_canHave_111 rfl rfl ?_
                      refine g_ald (v := (nI (uu u (f0 + 1) - (kf S x f0 p0 - l0)))) hX 21 rfl (f0 + 1) (by omega) (by decide) (rfl) (hq_p0.2.1) dM_canHave_112 ?_
                      refine g_iconst (v := 1) hX dM_canHave_113 (by decide) ?_
                      refine g_isub (z := (nI (uu u (f0 + 1) - (kf S x f0 p0 + 1 - l0)))) hX dM_canHave_114 (dec2 c_81 c_100 (hq_f0.1.2.1)) ?_
                      refine g_ast (ws1 := wM Z h q (sw V1 21 (f0 + 1) (nI (uu u (f0 + 1) - (kf S x f0 p0 + 1 - l0))))) hX 21 rfl (f0 + 1) (by omega) (by decide) (rfl) dM_canHave_115 (setM_S_21 Z h q V1 (f0 + 1) (nI (uu u (f0 + 1) - (kf S x f0 p0 + 1 - l0)))) ?_
                      refine g_iinc (v := (nI (p0 + 1))) (lv1 := [(0, .ref h), (1, .int x), (2, .int (nI f0)), (3, .int (nI (p0 + 1))), (4, .int (nI (f0 + 1)))]) hX dM_canHave_116 3 rfl (inc_nat _) (by decide) [1, 2, 3, 0, 4] rfl ?_
                      refine g_goto hX 46 dM_canHave_119 (by decide) ?_
                      refine g_lv (lv1 := [(0, .ref h), (1, .int x), (2, .int (nI f0)), (3, .int (nI (p0 + 1)))]) [0, 1, 2, 3] rfl ?_
                      exact ih_p0 (sw V1 21 (f0 + 1) (nI (uu u (f0 + 1) - (kf S x f0 p0 + 1 - l0)))) (hq_p0.two (kf_3 c_59 c_69) c_81 hq_f0.1.2.1 c_100 hu5)
                    · refine g_iconst (v := 0) hX dM_canHave_103 (by decide) ?_
                      exact r_zret hX hQ (rfl) dM_canHave_104 keysM (cvP_mk (ch_no hq_f0.1 hi_f0 hq_p0 hi_p0 (kf_3 c_59 c_69) c_81 c_100 hu5) hq_p0.2.2.2.2)
                  · refine g_iload_n hX dM_canHave_84 2 rfl ?_
                    refine g_goto hX 91 dM_canHave_85 (by decide) ?_
                    refine g_istore (lv1 := [(0, .ref h), (1, .int x), (2, .int (nI f0)), (3, .int (nI p0)), (4, .int (nI f0))]) hX dM_canHave_91 (by decide) [1, 2, 3, 4, 0] rfl ?_
                    refine g_aload_n hX dM_canHave_93 0 rfl ?_
                    refine g_get hX 0 rfl rfl 28 (by decide) uu_M q_612 rfl rfl dM_canHave_94 ?_
                    refine g_iload hX dM_canHave_97 4 rfl ?_
                    refine g_ald (v := (nI (l0 - kf S x f0 p0))) hX 21 rfl f0 (by omega) (by decide) (rfl) (hq_p0.1) dM_canHave_99 ?_
                    refine g_if_ne hX 105 dM_canHave_100 (by decide) (fun c_100 => ?_) (fun c_100 => absurd c_100 (fun z => c_81 (by rw [z]; decide)))
                    refine g_aload_n hX dM_canHave_105 0 rfl ?_
                    refine g_get hX 0 rfl rfl 28 (by decide) uu_M q_612 rfl rfl dM_canHave_106 ?_
                    refine g_iload hX dM_canHave_109 4 rfl ?_
                    refine g_dup2 hX dM_canHave_111 rfl rfl ?_
                    refine g_ald (v := (nI (l0 - kf S x f0 p0))) hX 21 rfl f0 (by omega) (by decide) (rfl) (hq_p0.1) dM_canHave_112 ?_
                    refine g_iconst (v := 1) hX dM_canHave_113 (by decide) ?_
                    refine g_isub (z := (nI (l0 - (kf S x f0 p0 + 1)))) hX dM_canHave_114 (by rw [show l0 - (kf S x f0 p0 + 1) = l0 - kf S x f0 p0 - 1 by omega]; exact pk_sub (a := l0 - kf S x f0 p0) (b := 1) (one_le c_81)) ?_
                    refine g_ast (ws1 := wM Z h q (sw V1 21 f0 (nI (l0 - (kf S x f0 p0 + 1))))) hX 21 rfl f0 (by omega) (by decide) (rfl) dM_canHave_115 (setM_S_21 Z h q V1 f0 (nI (l0 - (kf S x f0 p0 + 1)))) ?_
                    refine g_iinc (v := (nI (p0 + 1))) (lv1 := [(0, .ref h), (1, .int x), (2, .int (nI f0)), (3, .int (nI (p0 + 1))), (4, .int (nI f0))]) hX dM_canHave_116 3 rfl (inc_nat _) (by decide) [1, 2, 3, 0, 4] rfl ?_
                    refine g_goto hX 46 dM_canHave_119 (by decide) ?_
                    refine g_lv (lv1 := [(0, .ref h), (1, .int x), (2, .int (nI f0)), (3, .int (nI (p0 + 1)))]) [0, 1, 2, 3] rfl ?_
                    exact ih_p0 (sw V1 21 f0 (nI (l0 - (kf S x f0 p0 + 1)))) (hq_p0.one (kf_3 c_59 c_69) c_81 hq_f0.1.2.1)
                · refine g_goto hX 116 dM_canHave_72 (by decide) ?_
                  refine g_iinc (v := (nI (p0 + 1))) (lv1 := [(0, .ref h), (1, .int x), (2, .int (nI f0)), (3, .int (nI (p0 + 1)))]) hX dM_canHave_116 3 rfl (inc_nat _) (by decide) [1, 2, 3, 0] rfl ?_
                  refine g_goto hX 46 dM_canHave_119 (by decide) ?_
                  exact ih_p0 V1 (hq_p0.same (kf_2 c_59 c_69))
          exact hL_46 0 (Nat.zero_le _) V0 (hq_f0.1.in_ hi_f0)
      exact hL_38 1 (by omega) V9 (u 1) (⟨CF.start hq_i0.1 hu5, Nat.le_refl _⟩)
    · intro V9 hq_i0
      refine g_iload_n hX dM_canHave_2 2 rfl ?_
      refine g_bipush (v := 7) hX dM_canHave_3 (by decide) ?_
      refine g_icmp_ge hX 36 dM_canHave_5 (by decide) (fun c_5 => absurd c_5 (nI_ge (a := i0) (b := 7) hi_i0 (by omega))) (fun c_5 => ?_)
      refine g_aload_n hX dM_canHave_8 0 rfl ?_
      refine g_get hX 0 rfl rfl 28 (by decide) uu_M q_612 rfl rfl dM_canHave_9 ?_
      refine g_iload_n hX dM_canHave_12 2 rfl ?_
      refine g_iload_n hX dM_canHave_13 2 rfl ?_
      refine g_bipush (v := 6) hX dM_canHave_14 (by decide) ?_
      have hJ_29 : G X Z (wM Z h q V9) 29 [(0, .ref h), (1, .int x), (2, .int (nI i0))] [.int (nI (uu u i0)), .int (nI i0), .ref (q 21)] := by
        refine g_ast (ws1 := wM Z h q (sw V9 21 i0 (nI (uu u i0)))) hX 21 rfl i0 (by omega) (by decide) (rfl) dM_canHave_29 (setM_S_21 Z h q V9 i0 (nI (uu u i0))) ?_
        refine g_iinc (v := (nI (i0 + 1))) (lv1 := [(0, .ref h), (1, .int x), (2, .int (nI (i0 + 1)))]) hX dM_canHave_30 2 rfl (inc_nat _) (by decide) [1, 2, 0] rfl ?_
        refine g_goto hX 2 dM_canHave_33 (by decide) ?_
        exact ih_i0 (sw V9 21 i0 (nI (uu u i0))) (⟨hq_i0.1.step, by omega⟩)
      refine g_icmp_ge hX 28 dM_canHave_16 (by decide) (fun c_16 => ?_) (fun c_16 => ?_)
      · refine g_iconst (v := 0) hX dM_canHave_28 (by decide) ?_
        refine g_top (y := (nI (uu u i0))) (by first | exact uu_hi hi_i0 c_16 | exact uu_lo hi_i0 c_16) ?_
        exact hJ_29
      · refine g_aload_n hX dM_canHave_19 0 rfl ?_
        refine g_get hX 0 rfl rfl 14 (by decide) uu_M q_598 rfl rfl dM_canHave_20 ?_
        refine g_iload_n hX dM_canHave_23 2 rfl ?_
        refine g_ald (v := (nI (u i0))) hX 12 rfl i0 (by omega) (by decide) (rfl) (by rw [hq_i0.1.2 11 (by decide)]; exact hu i0 hq_i0.2 (lt6_of hi_i0 c_16)) dM_canHave_24 ?_
        refine g_goto hX 29 dM_canHave_25 (by decide) ?_
        refine g_top (y := (nI (uu u i0))) (by first | exact uu_hi hi_i0 c_16 | exact uu_lo hi_i0 c_16) ?_
        exact hJ_29
  exact hL_2 1 (by omega) S (⟨⟨fun g h1 h2 => by omega, fun _ _ => rfl⟩, Nat.le_refl _⟩)
set_option maxHeartbeats 4000000 in
set_option maxRecDepth 20000 in
theorem con_M_bare (l : Launch) (Z : ZZ) (h : Nat) (q : Nat → Nat) (S : St) (nP : Nat) (hP : S 12 1 = nI nP) (hP5 : nP ≤ 5) (nL : Nat) (u : Nat → Nat) (hu : ∀ f, 1 ≤ f → f < 6 → S 11 f = nI (u f)) (hu5 : ∀ f, u f ≤ 5) : Con l Z yM_bare cM_bare 4 (some .int) 2 [.ref h] (wM Z h q S) (MIq Z h q nL (nI (leastBareS S nP), S)) := by
  refine Con.of (by decide) (Nat.le_of_ble_eq_true rfl) (fun X hX hQ => ?_)
  show G X Z (wM Z h q S) 0 [(0, .ref h)] []
  refine g_iconst (v := 1) hX dM_bare_0 (by decide) ?_
  refine g_aload_n hX dM_bare_1 0 rfl ?_
  refine g_get hX 0 rfl rfl 8 (by decide) uu_M q_592 rfl rfl dM_bare_2 ?_
  refine g_top (y := (nI nP)) (hP) ?_
  refine g_ishl (z := ((1 : Int32) <<< (nI nP &&& 31))) hX dM_bare_5 (rfl) ?_
  refine g_iconst (v := 1) hX dM_bare_6 (by decide) ?_
  refine g_isub (z := (nI (2 ^ nP - 1))) hX dM_bare_7 (shl_small nP hP5) ?_
  refine g_istore_n (lv1 := [(0, .ref h), (1, .int (nI (2 ^ nP - 1)))]) hX dM_bare_8 (by decide) [1, 0] rfl ?_
  refine g_iload_n hX dM_bare_9 1 rfl ?_
  refine g_istore_n (lv1 := [(0, .ref h), (1, .int (nI (2 ^ nP - 1))), (2, .int (nI (2 ^ nP - 1)))]) hX dM_bare_10 (by decide) [1, 2, 0] rfl ?_
  have hL_11 : ∀ i0, i0 ≤ 2 ^ nP → ∀ (y0 : Int32) (fb0 : Nat) (V0 : St), y0 = nI (2 ^ nP - i0) - 1 ∧ fb0 = fbL S nP (2 ^ nP - 1) i0 ∧ (∀ k, k ≠ 21 → V0 k = S k) → G X Z (wM Z h q V0) 11 [(0, .ref h), (1, .int (nI fb0)), (2, .int y0)] [] := by
    refine loopUp _ (2 ^ nP) ?_ (fun i0 hi_i0 ih_i0 => ?_)
    · intro y0 fb0 V0 hq_i0
      refine g_iload_n hX dM_bare_11 2 rfl ?_
      refine g_if_lt hX 63 dM_bare_12 (by decide) (fun c_12 => ?_) (fun c_12 => absurd (by rw [hq_i0.1, Nat.sub_self]; decide) c_12)
      refine g_iload_n hX dM_bare_63 1 rfl ?_
      exact r_iret hX hQ dM_bare_64 keysM (by rw [show nI fb0 = nI (leastBareS S nP) from by rw [hq_i0.2.1, fb_lb hP5]]; exact MIq_mk (fun k _ _ _ _ h21 j _ _ => by rw [hq_i0.2.2 k h21]))
    · intro y0 fb0 V0 hq_i0
      refine g_iload_n hX dM_bare_11 2 rfl ?_
      refine g_if_lt hX 63 dM_bare_12 (by decide) (fun c_12 => absurd c_12 (by have h9 := all_lt nP hP5; have hp9 : 0 < 2 ^ nP := Nat.two_pow_pos nP; rw [hq_i0.1, show 2 ^ nP - i0 = (2 ^ nP - 1 - i0) + 1 by omega, ← nI_1, Int32.add_sub_cancel]; exact nI_pos (by omega))) (fun c_12 => ?_)
      have ey : y0 = nI (2 ^ nP - 1 - i0) := by rw [hq_i0.1, show 2 ^ nP - i0 = (2 ^ nP - 1 - i0) + 1 by omega, ← nI_1, Int32.add_sub_cancel]
      refine g_eq (lv1 := [(0, .ref h), (1, .int (nI (fbL S nP (2 ^ nP - 1) i0))), (2, .int (nI (2 ^ nP - 1 - i0)))]) rfl (by rw [ey, hq_i0.2.1]) rfl ?_
      refine g_iload_n hX dM_bare_15 2 rfl ?_
      refine g_callS hX (con_JI_bitCount l Z (2 ^ nP - 1 - i0) (by have := all_lt nP hP5; omega)) msJI_bitCount q_886 rfl (by decide) rfl (Nat.le_of_ble_eq_true rfl) dM_bare_16 [] rfl (rfl) (g_fn (ws1 := wM Z h q V0) (st1 := [.int (nI (pc5 (2 ^ nP - 1 - i0)))]) (rfl) rfl ?_)
      refine g_iload_n hX dM_bare_19 1 rfl ?_
      refine g_callS hX (con_JI_bitCount l Z (fbL S nP (2 ^ nP - 1) i0) (Nat.lt_of_le_of_lt (fbL_le S nP _ i0) (all_lt nP hP5))) msJI_bitCount q_886 rfl (by decide) rfl (Nat.le_of_ble_eq_true rfl) dM_bare_20 [] rfl (rfl) (g_fn (ws1 := wM Z h q V0) (st1 := [.int (nI (pc5 (fbL S nP (2 ^ nP - 1) i0))), .int (nI (pc5 (2 ^ nP - 1 - i0)))]) (rfl) rfl ?_)
      refine g_icmp_gt hX 30 dM_bare_23 (by decide) (fun c_23 => ?_) (fun c_23 => ?_)
      · refine g_iconst (v := 0) hX dM_bare_30 (by decide) ?_
        refine g_istore_n (lv1 := [(0, .ref h), (1, .int (nI (fbL S nP (2 ^ nP - 1) i0))), (2, .int (nI (2 ^ nP - 1 - i0))), (3, .int 0)]) hX dM_bare_31 (by decide) [1, 2, 3, 0] rfl ?_
        refine g_iload_n hX dM_bare_32 3 rfl ?_
        refine g_if_eq hX 57 dM_bare_33 (by decide) (fun c_33 => ?_) (fun c_33 => absurd (rfl) c_33)
        refine g_iinc (v := ((nI (2 ^ nP - 1 - i0)) - 1)) (lv1 := [(0, .ref h), (1, .int (nI (fbL S nP (2 ^ nP - 1) i0))), (2, .int ((nI (2 ^ nP - 1 - i0)) - 1)), (3, .int 0)]) hX dM_bare_57 2 rfl (by rw [Int32.sub_eq_add_neg]; rfl) (by decide) [1, 2, 0, 3] rfl ?_
        refine g_goto hX 11 dM_bare_60 (by decide) ?_
        refine g_lv (lv1 := [(0, .ref h), (1, .int (nI (fbL S nP (2 ^ nP - 1) i0))), (2, .int ((nI (2 ^ nP - 1 - i0)) - 1))]) [0, 1, 2] rfl ?_
        exact ih_i0 ((nI (2 ^ nP - 1 - i0)) - 1) (fbL S nP (2 ^ nP - 1) i0) V0 (⟨by rw [show 2 ^ nP - 1 - i0 = 2 ^ nP - (i0 + 1) by omega], fb_gt c_23, hq_i0.2.2⟩)
      · refine g_iconst (v := 1) hX dM_bare_26 (by decide) ?_
        refine g_goto hX 31 dM_bare_27 (by decide) ?_
        refine g_istore_n (lv1 := [(0, .ref h), (1, .int (nI (fbL S nP (2 ^ nP - 1) i0))), (2, .int (nI (2 ^ nP - 1 - i0))), (3, .int 1)]) hX dM_bare_31 (by decide) [1, 2, 3, 0] rfl ?_
        refine g_iload_n hX dM_bare_32 3 rfl ?_
        refine g_if_eq hX 57 dM_bare_33 (by decide) (fun c_33 => absurd c_33 (by decide)) (fun c_33 => ?_)
        refine g_aload_n hX dM_bare_36 0 rfl ?_
        refine g_iconst (v := 1) hX dM_bare_37 (by decide) ?_
        refine g_aload_n hX dM_bare_38 0 rfl ?_
        refine g_get hX 0 rfl rfl 8 (by decide) uu_M q_592 rfl rfl dM_bare_39 ?_
        refine g_top (y := (nI nP)) (by rw [hq_i0.2.2 12 (by decide)]; exact hP) ?_
        refine g_ishl (z := ((1 : Int32) <<< (nI nP &&& 31))) hX dM_bare_42 (rfl) ?_
        refine g_iconst (v := 1) hX dM_bare_43 (by decide) ?_
        refine g_isub (z := (nI (2 ^ nP - 1))) hX dM_bare_44 (shl_small nP hP5) ?_
        refine g_iload_n hX dM_bare_45 2 rfl ?_
        refine g_iconst (v := (-1)) hX dM_bare_46 (by decide) ?_
        refine g_ixor (z := ((nI (2 ^ nP - 1 - i0)) ^^^ (-1))) hX dM_bare_47 (rfl) ?_
        refine g_iand (z := ((nI (2 ^ nP - 1)) &&& ((nI (2 ^ nP - 1 - i0)) ^^^ (-1)))) hX dM_bare_48 (rfl) ?_
        refine g_callV hX (con_M_canHave l Z h q V0 ((nI (2 ^ nP - 1)) &&& ((nI (2 ^ nP - 1 - i0)) ^^^ (-1))) nP (by rw [hq_i0.2.2 12 (by decide)]; exact hP) hP5 u (fun f h1 h2 => by rw [hq_i0.2.2 11 (by decide)]; exact hu f h1 h2) hu5) mvM_canHave q_887 rfl (by decide) 0 rfl rfl rfl (Nat.le_of_ble_eq_true rfl) dM_bare_49 [0, 1, 2, 3, 4, 5, 6, 7, 8, 9, 10, 11, 12, 13, 14, 15, 16, 17, 18, 19, 20, 21] rfl (subM_all Z h q V0) (fun v w hp => ?_)
        obtain ⟨rfl, F1, rfl⟩ := hp
        refine g_eq (ws1 := wM Z h q (sr V0 21 F1)) (st1 := [.int (enough S nP (nI (2 ^ nP - 1 - i0)))]) (putM_all Z h q V0 _) rfl (by rw [cv_enough (S := V0) hP5 (by omega) (fun f h1 h2 => by rw [hq_i0.2.2 11 (by decide)]; exact hu f h1 h2) hu5, enough_cong (hq_i0.2.2 9 (by decide)) (hq_i0.2.2 11 (by decide))]; rfl) ?_
        refine g_if_eq hX 57 dM_bare_52 (by decide) (fun c_52 => ?_) (fun c_52 => ?_)
        · refine g_iinc (v := ((nI (2 ^ nP - 1 - i0)) - 1)) (lv1 := [(0, .ref h), (1, .int (nI (fbL S nP (2 ^ nP - 1) i0))), (2, .int ((nI (2 ^ nP - 1 - i0)) - 1)), (3, .int 1)]) hX dM_bare_57 2 rfl (by rw [Int32.sub_eq_add_neg]; rfl) (by decide) [1, 2, 0, 3] rfl ?_
          refine g_goto hX 11 dM_bare_60 (by decide) ?_
          refine g_lv (lv1 := [(0, .ref h), (1, .int (nI (fbL S nP (2 ^ nP - 1) i0))), (2, .int ((nI (2 ^ nP - 1 - i0)) - 1))]) [0, 1, 2] rfl ?_
          exact ih_i0 ((nI (2 ^ nP - 1 - i0)) - 1) (fbL S nP (2 ^ nP - 1) i0) (sr V0 21 F1) (⟨by rw [show 2 ^ nP - 1 - i0 = 2 ^ nP - (i0 + 1) by omega], fb_no c_52, fun k hk => by rw [sr_ne _ _ hk]; exact hq_i0.2.2 k hk⟩)
        · refine g_iload_n hX dM_bare_55 2 rfl ?_
          refine g_istore_n (lv1 := [(0, .ref h), (1, .int (nI (2 ^ nP - 1 - i0))), (2, .int (nI (2 ^ nP - 1 - i0))), (3, .int 1)]) hX dM_bare_56 (by decide) [1, 0, 2, 3] rfl ?_
          refine g_iinc (v := ((nI (2 ^ nP - 1 - i0)) - 1)) (lv1 := [(0, .ref h), (1, .int (nI (2 ^ nP - 1 - i0))), (2, .int ((nI (2 ^ nP - 1 - i0)) - 1)), (3, .int 1)]) hX dM_bare_57 2 rfl (by rw [Int32.sub_eq_add_neg]; rfl) (by decide) [1, 2, 0, 3] rfl ?_
          refine g_goto hX 11 dM_bare_60 (by decide) ?_
          refine g_lv (lv1 := [(0, .ref h), (1, .int (nI (2 ^ nP - 1 - i0))), (2, .int ((nI (2 ^ nP - 1 - i0)) - 1))]) [0, 1, 2] rfl ?_
          exact ih_i0 ((nI (2 ^ nP - 1 - i0)) - 1) (2 ^ nP - 1 - i0) (sr V0 21 F1) (⟨by rw [show 2 ^ nP - 1 - i0 = 2 ^ nP - (i0 + 1) by omega], fb_yes c_23 c_52, fun k hk => by rw [sr_ne _ _ hk]; exact hq_i0.2.2 k hk⟩)
  exact hL_11 0 (Nat.zero_le _) (nI (2 ^ nP - 1)) (2 ^ nP - 1) S (⟨by rw [Nat.sub_zero]; exact (pk_sub (a := 2 ^ nP) (b := 1) (Nat.two_pow_pos nP)).symm, rfl, fun _ _ => rfl⟩)
set_option maxHeartbeats 4000000 in
set_option maxRecDepth 20000 in
theorem con_M_fitted (l : Launch) (Z : ZZ) (h : Nat) (q : Nat → Nat) (S : St) (nP : Nat) (hP : S 12 1 = nI nP) (hP5 : nP ≤ 5) (nL : Nat) (u : Nat → Nat) (hu : ∀ f, 1 ≤ f → f < 6 → S 11 f = nI (u f)) (hu5 : ∀ f, u f ≤ 5) : Con l Z yM_fitted cM_fitted 1 (some .int) 3 [.ref h] (wM Z h q S) (MIq Z h q nL (nI nP - nI (pc5 (leastBareS S nP)), S)) := by
  refine Con.of (by decide) (Nat.le_of_ble_eq_true rfl) (fun X hX hQ => ?_)
  show G X Z (wM Z h q S) 0 [(0, .ref h)] []
  refine g_aload_n hX dM_fitted_0 0 rfl ?_
  refine g_get hX 0 rfl rfl 8 (by decide) uu_M q_592 rfl rfl dM_fitted_1 ?_
  refine g_top (y := (nI nP)) (hP) ?_
  refine g_aload_n hX dM_fitted_4 0 rfl ?_
  refine g_callV hX (con_M_bare l Z h q S nP hP hP5 nL u hu hu5) mvM_bare q_882 rfl (by decide) 0 rfl rfl rfl (Nat.le_of_ble_eq_true rfl) dM_fitted_5 [0, 1, 2, 3, 4, 5, 6, 7, 8, 9, 10, 11, 12, 13, 14, 15, 16, 17, 18, 19, 20, 21] rfl (subM_all Z h q S) (fun v w hp => ?_)
  obtain ⟨rfl, S1, hS1, rfl⟩ := hp
  refine g_eq (ws1 := wM Z h q S1) (st1 := [.int (nI (leastBareS S nP)), .int (nI nP)]) (putM_all Z h q S S1) rfl rfl ?_
  refine g_callS hX (con_JI_bitCount l Z (leastBareS S nP) (lbS_le S nP _ (all_lt nP hP5) _ (Nat.le_refl _))) msJI_bitCount q_886 rfl (by decide) rfl (Nat.le_of_ble_eq_true rfl) dM_fitted_8 [] rfl (rfl) (g_fn (ws1 := wM Z h q S1) (st1 := [.int (nI (pc5 (leastBareS S nP))), .int (nI nP)]) (rfl) rfl ?_)
  refine g_isub (z := ((nI nP) - (nI (pc5 (leastBareS S nP))))) hX dM_fitted_11 (rfl) ?_
  exact r_iret hX hQ dM_fitted_12 keysM (MIq_mk hS1)

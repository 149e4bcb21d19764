/-! THE CLASS'S MINISTRY, held against the reference's numbers -/
section KIT2
variable {κ : Kx} {cc : ByteArray} {own : String} {nL : Nat} {ret : Option FieldType} {R : Room} {Q : State → Prop} {M : Mem} {pc : Nat} {f : List (Option Value)} {st : List Value}
theorem r_iushr {x y v : Int32} (hd : decode cc pc = .ok (.iushr, 1)) (hv : (x.toUInt32 >>> (y.toUInt32 &&& Int32.toUInt32 31)).toInt32 = v) (k : V κ cc own nL ret R Q M (pc + 1) f (.int v :: st)) : V κ cc own nL ret R Q M pc f (.int y :: .int x :: st) := fun cx H locs ls hP hS hl => lv_iushr cx.1 cx.2.1 hd hv (k cx H locs ls hP hS hl)
theorem r_alen {o : Nat} (hd : decode cc pc = .ok (.arraylength, 1)) (ho : isIA o = true) (k : V κ cc own nL ret R Q M (pc + 1) f (.int (nI (lenA o)) :: st)) : V κ cc own nL ret R Q M pc f (.ref (gA κ.G o) :: st) := fun cx H locs ls hP hS hl =>
  va_alen cx.1 cx.2.1 cx.2.2.2.2.2.1.2.1 hP o 0 (x := (lenA o, .inl (M o))) (by rw [Wd_at _ _ (isIA_lt ho), contE_IA _ _ ho]) rfl rfl hd (k cx H locs ls hP hS hl)
theorem r_min {i : Nat} {x y : Int32} (hd : decode cc pc = .ok (.invokestatic i, 3)) (hw : Cond.methodLink own i Lib.Math.min.name ∈ gtbl) (h1 : Cond.static Lib.Math.min.name ∈ gtbl) (h2 : Cond.initialized "java/lang/Math" ∈ gtbl) (h3 : Cond.code Lib.Math.min.name Lib.Math.min.code 2 (some .int) ∈ gtbl) (hfr : 1 ≤ R.frames) (hlo : (st.map fun v => v.category).sum + 13 ≤ R.locals) (hc : κ.k ≤ R.cells) (hs : κ.n ≤ R.slots) (k : V κ cc own nL ret R Q M (pc + 3) f (.int (if y < x then y else x) :: st)) : V κ cc own nL ret R Q M pc f (.int y :: .int x :: st) := fun cx H locs ls hP hS hl =>
  va_mmin cx.1 cx.2.1 (by rw [hl.1]; exact cx.2.2.1) cx.2.2.2.1 (cx.2.2.2.2.1 _ hw) (cx.2.2.2.2.1 _ h1) (cx.2.2.2.2.1 _ h2) (cx.2.2.2.2.1 _ h3) hfr hlo hc hs hd (k cx H locs ls hP hS hl)
end KIT2
/-- the ministry at o holds S -/
def ms (o n : Nat) (S : Nat → Int32) (M : Mem) : Prop := M o 0 = nI n ∧ M o 1 = S 0 ∧ M o 2 = S 1 ∧ M o 3 = S 3 ∧ M o 4 = S 4 ∧ ∀ c, c < n → M (o + 1) c = S (5 + c) ∧ M (o + 2) c = S (11 + c) ∧ M (o + 3) c = S (29 + c) ∧ M (o + 4) c = S (17 + c) ∧ M (o + 5) c = S (23 + c) ∧ M (o + 6) c = S (35 + c)
def Rc (S : Nat → Int32) (c : Nat) : Prop := (∃ k, 1 ≤ k ∧ k ≤ 5 ∧ S (5 + c) = nI k) ∧ (∃ l, l ≤ 60 ∧ S (11 + c) = nI l) ∧ (∃ s, s ≤ 9 ∧ S (17 + c) = nI s) ∧ (∃ g, g ≤ 3 ∧ S (23 + c) = nI g) ∧ (∃ f, f ≤ 20 ∧ S (29 + c) = nI f)
def Rg (n : Nat) (S : Nat → Int32) : Prop := n ≤ 6 ∧ S 2 = nI n ∧ (∃ g, 0 ≤ g ∧ g ≤ 9 ∧ S 1 = nI g) ∧ (∃ w, w < 2 ^ n ∧ S 4 = nI w) ∧ ∀ c, c < n → Rc S c
def hB (k l f : Nat) : Nat := if k = 2 then (l + f) / 2 * 2 else if k = 3 then l + 2 * f else if k = 4 then l else if k = 5 then (if l = 0 then 0 else l + 5) else l + f
theorem nI_div2 : ∀ x : Nat, x ≤ 100 → nI x / nI 2 = nI (x / 2) := by decide
theorem highB_n {k l f : Nat} (hk : k ≤ 5) (hl : l ≤ 60) (hf : f ≤ 20) : highB (nI k) (nI l) (nI f) = nI (hB k l f) := by
  unfold highB hB
  have e : ∀ j, j ≤ 5 → (nI k = nI j ↔ k = j) := fun j hj => nI_eq (by omega) (by omega)
  by_cases h2 : k = 2
  · rw [if_pos ((e 2 (by omega)).mpr h2), if_pos h2, nI_add, nI_div2 _ (by omega), pk_mul]
  rw [if_neg (fun z => h2 ((e 2 (by omega)).mp z)), if_neg h2]
  by_cases h3 : k = 3
  · rw [if_pos ((e 3 (by omega)).mpr h3), if_pos h3, pk_mul, nI_add]
  rw [if_neg (fun z => h3 ((e 3 (by omega)).mp z)), if_neg h3]
  by_cases h4 : k = 4
  · rw [if_pos ((e 4 (by omega)).mpr h4), if_pos h4]
  rw [if_neg (fun z => h4 ((e 4 (by omega)).mp z)), if_neg h4]
  by_cases h5 : k = 5
  · rw [if_pos ((e 5 (by omega)).mpr h5), if_pos h5]
    by_cases h0 : l = 0
    · rw [h0]; decide
    · rw [if_neg h0, if_neg (fun z => h0 (by have := (nI_leI (a := l) (b := 0) (by omega) (by omega)).mp z; omega)), nI_add]
  · rw [if_neg (fun z => h5 ((e 5 (by omega)).mp z)), if_neg h5, nI_add]
theorem hB_le (k l f : Nat) (hl : l ≤ 60) (hf : f ≤ 20) : hB k l f ≤ 100 := by
  unfold hB
  split
  · omega
  · split
    · omega
    · split
      · omega
      · split
        · split <;> omega
        · omega
theorem Rc.high {S : Nat → Int32} {c : Nat} (h : Rc S c) : ∃ x, x ≤ 100 ∧ highS S c = nI x := by
  obtain ⟨⟨k, -, hk, ek⟩, ⟨l, hl, el⟩, -, -, ⟨f, hf, ef⟩⟩ := h
  exact ⟨hB k l f, hB_le _ _ _ hl hf, by rw [highS, ek, el, ef, highB_n hk hl hf]⟩
/-! ranks -/
theorem abv_iff (S : Nat → Int32) (o c : Nat) : abv S o c = true ↔ ((highS S c).toInt < (highS S o).toInt ∨ ((highS S o).toInt = (highS S c).toInt ∧ o < c)) := by
  simp [abv, fa_lt, fa_eq]
theorem rankN_ct (S : Nat → Int32) (c : Nat) : ∀ n, rankN S c n = fb_ct (fun o => abv S o c) n
  | 0 => rfl
  | n + 1 => by rw [rankN, fb_ct_succ, rankN_ct S c n]
theorem abv_irr (S : Nat → Int32) (c : Nat) : abv S c c = false := by
  cases h : abv S c c with
  | false => rfl
  | true =>
    have := (abv_iff S c c).mp h
    omega
theorem rank_lt (S : Nat → Int32) {c n : Nat} (h : c < n) : rankN S c n < n := by
  rw [rankN_ct]
  refine Nat.lt_of_le_of_ne (fb_ct_le _ _) (fun z => ?_)
  have := fb_ct_all.mp z c h
  rw [abv_irr] at this
  cases this
theorem rank_mono {S : Nat → Int32} {a b n : Nat} (ha : a < n) (h : abv S a b = true) : rankN S a n < rankN S b n := by
  rw [rankN_ct, rankN_ct]
  have h1 : fb_ct (fun o => abv S o a || decide (o = a)) n = fb_ct (fun o => abv S o a) n + fb_ct (fun o => decide (o = a)) n := fb_ct_or (fun k _ z => by
    have e := of_decide_eq_true z.2
    subst e
    rw [abv_irr] at z
    exact absurd z.1 (by decide))
  have h2 : fb_ct (fun o => abv S o a || decide (o = a)) n ≤ fb_ct (fun o => abv S o b) n := fb_ct_sub (fun k _ z => by
    rcases Bool.or_eq_true_iff.mp z with y | y
    · have e1 := (abv_iff S k a).mp y
      have e2 := (abv_iff S a b).mp h
      exact (abv_iff S k b).mpr (by omega)
    · rw [of_decide_eq_true y]; exact h)
  have h3 : 0 < fb_ct (fun o => decide (o = a)) n := fb_ct_pos.mpr ⟨a, ha, decide_eq_true rfl⟩
  omega
theorem rank_ne {S : Nat → Int32} {a b n : Nat} (ha : a < n) (hb : b < n) (h : a ≠ b) : rankN S a n ≠ rankN S b n := by
  by_cases h1 : abv S a b = true
  · have := rank_mono ha h1; omega
  · have h2 : abv S b a = true := (abv_iff S b a).mpr (by have := mt (abv_iff S a b).mpr h1; omega)
    have := rank_mono hb h2; omega
theorem rank_all (S : Nat → Int32) {n r : Nat} (h : r < n) : ∃ c, c < n ∧ rankN S c n = r := fb_onto (f := fun c => rankN S c n) (fun _ hi => rank_lt S hi) (fun i j hij hj => rank_ne (by omega) hj (by omega)) h
theorem atN_rank (S : Nat → Int32) {n c : Nat} (hc : c < n) (hn : n ≤ 6) : ∀ m, c < m → m ≤ n → atN S n (nI (rankN S c n)) m = nI c
  | 0, h, _ => absurd h (Nat.not_lt_zero c)
  | m + 1, h, hm => by
    rw [atN]
    by_cases e : m = c
    · subst e
      rw [if_pos rfl]
    · have h1 := rank_lt S (show m < n by omega)
      have h2 := rank_lt S hc
      rw [if_neg (fun z => rank_ne (S := S) (show m < n by omega) hc e ((nI_eq (by omega) (by omega)).mp z))]
      exact atN_rank S hc hn m (by omega) (by omega)
theorem atN_r (S : Nat → Int32) {n c : Nat} (hc : c < n) (hn : n ≤ 6) : atN S n (nI (rankN S c n)) n = nI c := atN_rank S hc hn n hc (Nat.le_refl n)
theorem atN_no (S : Nat → Int32) {n : Nat} (hn : n ≤ 6) : ∀ m, m ≤ n → atN S n (nI 0 - nI 1) m = cNone
  | 0, _ => rfl
  | m + 1, hm => by
    have h1 := rank_lt S (show m < n by omega)
    rw [atN, if_neg, atN_no S hn m (by omega)]
    exact (by decide : ∀ r, r < 6 → ¬ nI r = nI 0 - nI 1) _ (by omega)
/-! the night -/
abbrev swS (S : Nat → Int32) (s : Nat) : Nat := (S (17 + s)).toNatClampNeg
def sawA (S : Nat → Int32) (s c : Nat) : Nat := if S (5 + c) = nI 4 ∨ S (5 + c) = nI 5 then swS S s / 2 else swS S s
theorem Rc.sw {S : Nat → Int32} {c : Nat} (h : Rc S c) : S (17 + c) = nI (swS S c) ∧ swS S c ≤ 9 := by
  obtain ⟨-, -, ⟨s, hs, es⟩, -, -⟩ := h
  unfold swS
  rw [es, nI_clamp (by omega)]
  exact ⟨rfl, hs⟩
theorem Rc.lg {S : Nat → Int32} {c : Nat} (h : Rc S c) : S (11 + c) = nI (lgS S c) ∧ lgS S c ≤ 60 := by
  obtain ⟨-, ⟨s, hs, es⟩, -, -, -⟩ := h
  unfold lgS
  rw [es, nI_clamp (by omega)]
  exact ⟨rfl, hs⟩
theorem Rc.sf {S : Nat → Int32} {c : Nat} (h : Rc S c) : S (29 + c) = nI (sfS S c) ∧ sfS S c ≤ 20 := by
  obtain ⟨-, -, -, -, ⟨s, hs, es⟩⟩ := h
  unfold sfS
  rw [es, nI_clamp (by omega)]
  exact ⟨rfl, hs⟩
theorem sawnS_n {S : Nat → Int32} {s c : Nat} (h : Rc S s) : sawnS S s c = nI (sawA S s c) ∧ sawA S s c ≤ 9 := by
  obtain ⟨h1, h2⟩ := h.sw
  unfold sawnS sawA
  split
  · rw [h1, nI_div2 _ (by omega)]
    exact ⟨rfl, by omega⟩
  · exact ⟨h1, h2⟩
def oN (S : Nat → Int32) (n : Nat) : Nat → Nat → Nat
  | 0, _ => 0
  | s + 1, c => oN S n s c + (if tgtS S n s = nI c ∧ ¬ hasB (S 4) (nI c) then sawA S s c else 0)
theorem tgt_case {S : Nat → Int32} {n c : Nat} (hn1 : 0 < n) (hn : n ≤ 6) : (tgtS S n c = cNone ∧ tgtS S n c < 0 ∧ ∀ d, d < 6 → tgtS S n c ≠ nI d) ∨ ∃ d, d < n ∧ tgtS S n c = nI d ∧ ¬ tgtS S n c < 0 := by
  rcases tgtS_is S hn1 (c := c) with h | ⟨d, hd, h⟩
  · exact Or.inl ⟨h, by rw [h]; decide, fun d hd => by rw [h]; exact (by decide : ∀ d, d < 6 → cNone ≠ nI d) d hd⟩
  · exact Or.inr ⟨d, hd, h, by rw [h]; exact nI_pos (by omega)⟩
theorem offN_o {S : Nat → Int32} {n : Nat} (hn1 : 0 < n) (hn : n ≤ 6) (hR : ∀ c, c < n → Rc S c) : ∀ s, s ≤ n → ∀ c, c < n → offN S n (fun _ => nI 0) s c = nI (oN S n s c) ∧ oN S n s c ≤ 9 * s
  | 0, _, c, _ => ⟨rfl, Nat.zero_le _⟩
  | s + 1, hs, c, hc => by
    obtain ⟨h1, h2⟩ := offN_o hn1 hn hR s (by omega) c hc
    obtain ⟨w1, w2⟩ := sawnS_n (c := c) (hR s (by omega))
    rw [offN, oN]
    rcases tgt_case (S := S) (c := s) hn1 hn with ⟨e, hneg, hno⟩ | ⟨d, hd, e, hpos⟩
    · rw [if_neg (fun z => z.1 hneg), if_neg (fun z => hno c (by omega) z.1)]
      exact ⟨h1, by omega⟩
    · have hcl : (tgtS S n s).toNatClampNeg = d := by rw [e]; exact nI_clamp (by omega)
      by_cases hw : hasB (S 4) (nI d)
      · rw [if_neg (fun z => z.2 ⟨hpos, by rw [e]; exact hw⟩), if_neg]
        · exact ⟨h1, by omega⟩
        · rintro ⟨z1, z2⟩
          rw [e] at z1
          have := (nI_eq (by omega) (by omega)).mp z1
          subst this
          exact z2 hw
      · rw [if_pos ⟨hpos, fun z => hw (by rw [← e]; exact z.2)⟩, hcl]
        by_cases hdc : c = d
        · subst hdc
          rw [pk_us, if_pos ⟨e, hw⟩, h1, w1, nI_add]
          exact ⟨rfl, by omega⟩
        · rw [pk_un hdc, if_neg (fun z => hdc ((nI_eq (by omega) (by omega)).mp (z.1.symm.trans e)))]
          exact ⟨h1, by omega⟩
theorem hasB_bit : ∀ w : Nat, w < 64 → ∀ c : Nat, c < 6 → (hasB (nI w) (nI c) ↔ w.testBit c = true) := by decide +kernel
theorem cgtN_w (S : Nat → Int32) (n : Nat) : ∀ m, m ≤ 6 → ∃ w, w < 2 ^ m ∧ cgtN S n m = nI w ∧ ∀ c, w.testBit c = true ↔ (c < m ∧ isC S n c)
  | 0, _ => ⟨0, by decide, rfl, fun c => ⟨fun h => by simp at h, fun h => absurd h.1 (Nat.not_lt_zero c)⟩⟩
  | m + 1, hm => by
    obtain ⟨w, hw, e, hb⟩ := cgtN_w S n m (by omega)
    rw [cgtN]
    by_cases h : isC S n m
    · refine ⟨w ||| 2 ^ m, Nat.or_lt_two_pow (by rw [Nat.pow_succ]; omega) (Nat.pow_lt_pow_right (by decide) (by omega)), by rw [if_pos h, e, shl1 m (by omega), fa_or], fun c => ?_⟩
      rw [fb_bit_set, Bool.or_eq_true_iff, hb c, decide_eq_true_iff]
      constructor
      · rintro (⟨z1, z2⟩ | z)
        · exact ⟨by omega, z2⟩
        · subst z; exact ⟨by omega, h⟩
      · rintro ⟨z1, z2⟩
        by_cases y : c = m
        · exact Or.inr y
        · exact Or.inl ⟨by omega, z2⟩
    · refine ⟨w, by rw [Nat.pow_succ]; omega, by rw [if_neg h, e]; show nI w ||| nI 0 = _; rw [fa_or, Nat.or_zero], fun c => ?_⟩
      rw [hb c]
      constructor
      · rintro ⟨z1, z2⟩; exact ⟨by omega, z2⟩
      · rintro ⟨z1, z2⟩
        refine ⟨Nat.lt_of_le_of_ne (by omega) (fun z => ?_), z2⟩
        subst z
        exact h z2
theorem cgt_has {S : Nat → Int32} {n c : Nat} (hn : n ≤ 6) (hc : c < n) : hasB (cgtN S n n) (nI c) ↔ isC S n c := by
  obtain ⟨w, hw, e, hb⟩ := cgtN_w S n n hn
  have := two6 n hn
  rw [e, hasB_bit w (by omega) c (by omega), hb c]
  exact ⟨fun z => z.2, fun z => ⟨hc, z⟩⟩
theorem nightN_11 (S off : Nat → Int32) (cg : Int32) {c : Nat} (hc : c < 6) : ∀ m, m ≤ 6 → nightN S off cg m (11 + c) = if c < m then (if 0 ≤ S (11 + c) - off c then S (11 + c) - off c else nI 0) else S (11 + c)
  | 0, _ => rfl
  | m + 1, hm => by
    have h := nightN_11 S off cg hc m (by omega)
    rw [nightN, pk_un (by omega), pk_un (by omega)]
    by_cases e : c = m
    · subst e
      rw [pk_us, h, if_neg (Nat.lt_irrefl _), if_pos (show c < c + 1 by omega)]
    · rw [pk_un (by omega), h]
      by_cases h2 : c < m
      · rw [if_pos h2, if_pos (show c < m + 1 by omega)]
      · rw [if_neg h2, if_neg (show ¬ c < m + 1 by omega)]
theorem nightN_17 (S off : Nat → Int32) (cg : Int32) {c : Nat} (hc : c < 6) : ∀ m, m ≤ 6 → nightN S off cg m (17 + c) = if c < m then S (17 + c) - (if hasB cg (nI c) then nI 1 else nI 0) else S (17 + c)
  | 0, _ => rfl
  | m + 1, hm => by
    have h := nightN_17 S off cg hc m (by omega)
    rw [nightN, pk_un (by omega)]
    by_cases e : c = m
    · subst e
      rw [pk_us, h, if_neg (Nat.lt_irrefl _), if_pos (show c < c + 1 by omega)]
    · rw [pk_un (by omega), pk_un (by omega), h]
      by_cases h2 : c < m
      · rw [if_pos h2, if_pos (show c < m + 1 by omega)]
      · rw [if_neg h2, if_neg (show ¬ c < m + 1 by omega)]
theorem nightN_35 (S off : Nat → Int32) (cg : Int32) {c : Nat} (hc : c < 6) : ∀ m, m ≤ 6 → nightN S off cg m (35 + c) = if c < m then S (35 + c) + (if hasB cg (nI c) then nI 1 else nI 0) else S (35 + c)
  | 0, _ => rfl
  | m + 1, hm => by
    have h := nightN_35 S off cg hc m (by omega)
    rw [nightN]
    by_cases e : c = m
    · subst e
      rw [pk_us, h, if_neg (Nat.lt_irrefl _), if_pos (show c < c + 1 by omega)]
    · rw [pk_un (by omega), pk_un (by omega), pk_un (by omega), h]
      by_cases h2 : c < m
      · rw [if_pos h2, if_pos (show c < m + 1 by omega)]
      · rw [if_neg h2, if_neg (show ¬ c < m + 1 by omega)]
theorem nightN_o (S off : Nat → Int32) (cg : Int32) {k : Nat} (hk : k < 11 ∨ (23 ≤ k ∧ k < 35)) : ∀ m, m ≤ 6 → nightN S off cg m k = S k
  | 0, _ => rfl
  | m + 1, hm => by rw [nightN, pk_un (by omega), pk_un (by omega), pk_un (by omega), nightN_o S off cg hk m (by omega)]
theorem night_3 (S : Nat → Int32) {n : Nat} (hn : n ≤ 6) : nightP S n 3 = S 3 + nI 1 := by
  unfold nightP nightS
  rw [pk_us, nightN_o _ _ _ (by omega) _ hn]
theorem night_o (S : Nat → Int32) {n k : Nat} (hn : n ≤ 6) (hk : k < 11 ∨ (23 ≤ k ∧ k < 35)) (h3 : k ≠ 3) : nightP S n k = S k := by
  unfold nightP nightS
  rw [pk_un h3, nightN_o _ _ _ hk _ hn]
theorem night_leg {S : Nat → Int32} {n c : Nat} (hn1 : 0 < n) (hn : n ≤ 6) (hR : ∀ c, c < n → Rc S c) (hc : c < n) : nightP S n (11 + c) = nI (lgS S c - oN S n n c) := by
  unfold nightP nightS
  obtain ⟨h1, h2⟩ := offN_o hn1 hn hR n (Nat.le_refl n) c hc
  obtain ⟨l1, l2⟩ := (hR c hc).lg
  rw [pk_un (by omega), nightN_11 _ _ _ (by omega) _ hn, if_pos hc, h1, l1]
  by_cases h : oN S n n c ≤ lgS S c
  · rw [pk_sub h, if_pos (nI_pos' (by omega))]
  · rw [if_neg, show lgS S c - oN S n n c = 0 by omega]
    intro z
    rw [fa_le] at z
    rw [fb_subI (by rw [nI_toInt (by omega), nI_toInt (by omega)]; omega) (by rw [nI_toInt (by omega), nI_toInt (by omega)]; omega), nI_toInt (by omega), nI_toInt (by omega)] at z
    have : (0 : Int32).toInt = 0 := rfl
    omega
theorem night_saw {S : Nat → Int32} {n c : Nat} (hn : n ≤ 6) (hc : c < n) : nightP S n (17 + c) = S (17 + c) - (if isC S n c then nI 1 else nI 0) := by
  unfold nightP nightS
  rw [pk_un (by omega), nightN_17 _ _ _ (by omega) _ hn, if_pos hc]
  by_cases h : isC S n c
  · rw [if_pos ((cgt_has hn hc).mpr h), if_pos h]
  · rw [if_neg (fun z => h ((cgt_has hn hc).mp z)), if_neg h]
theorem night_cgt {S : Nat → Int32} {n c : Nat} (hn : n ≤ 6) (hc : c < n) : nightP S n (35 + c) = S (35 + c) + (if isC S n c then nI 1 else nI 0) := by
  unfold nightP nightS
  rw [pk_un (by omega), nightN_35 _ _ _ (by omega) _ hn, if_pos hc]
  by_cases h : isC S n c
  · rw [if_pos ((cgt_has hn hc).mpr h), if_pos h]
  · rw [if_neg (fun z => h ((cgt_has hn hc).mp z)), if_neg h]
theorem isC_sw {S : Nat → Int32} {n c : Nat} (h : isC S n c) : ¬ S (17 + c) = 0 := by
  intro z
  have := h.1
  rw [tgtS, if_pos (Or.inl z)] at this
  exact this (by decide)
theorem sub0 (x : Int32) : x - nI 0 = x := Int32.sub_zero x
theorem night_Rc {S : Nat → Int32} {n c : Nat} (hn1 : 0 < n) (hn : n ≤ 6) (hR : ∀ c, c < n → Rc S c) (hc : c < n) : Rc (nightP S n) c := by
  have h0 := hR c hc
  obtain ⟨l1, l2⟩ := h0.lg
  obtain ⟨s1, s2⟩ := h0.sw
  obtain ⟨hk, -, -, hg, hf⟩ := h0
  refine ⟨by rw [night_o S hn (by omega) (by omega)]; exact hk, ⟨_, ?_, night_leg hn1 hn hR hc⟩, ?_, by rw [night_o S hn (by omega) (by omega)]; exact hg, by rw [night_o S hn (by omega) (by omega)]; exact hf⟩
  · omega
  · rw [night_saw hn hc]
    by_cases h : isC S n c
    · have := isC_sw h
      have h1 : 1 ≤ swS S c := Nat.pos_of_ne_zero (fun z => this (by rw [s1, z]; rfl))
      rw [if_pos h, s1, pk_sub h1]
      exact ⟨_, by omega, rfl⟩
    · rw [if_neg h, sub0]
      exact ⟨_, s2, s1⟩
theorem Rg.night {S : Nat → Int32} {n : Nat} (h : Rg n S) (hn1 : 0 < n) : Rg n (nightP S n) := by
  obtain ⟨hn, h2, hg, hw, hR⟩ := h
  exact ⟨hn, by rw [night_o S hn (by omega) (by omega)]; exact h2, by rw [night_o S hn (by omega) (by omega)]; exact hg, by rw [night_o S hn (by omega) (by omega)]; exact hw, fun c hc => night_Rc hn1 hn hR hc⟩
theorem Rg.go {S : Nat → Int32} {n : Nat} (h : Rg n S) (hn1 : 0 < n) : ∀ k, Rg n (goP S n k)
  | 0 => h
  | k + 1 => (Rg.go h hn1 k).night hn1

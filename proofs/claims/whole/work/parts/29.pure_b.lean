/-- alike in what one sees: kinds, legs, cushions -/
def sk (n : Nat) (S T : Nat → Int32) : Prop := ∀ c, c < n → S (5 + c) = T (5 + c) ∧ S (11 + c) = T (11 + c) ∧ S (29 + c) = T (29 + c)
theorem sk.refl (n : Nat) (S : Nat → Int32) : sk n S S := fun _ _ => ⟨rfl, rfl, rfl⟩
theorem sk.symm {n : Nat} {S T : Nat → Int32} (h : sk n S T) : sk n T S := fun c hc => ⟨(h c hc).1.symm, (h c hc).2.1.symm, (h c hc).2.2.symm⟩
theorem sk.trans {n : Nat} {S T U : Nat → Int32} (h : sk n S T) (g : sk n T U) : sk n S U := fun c hc => ⟨(h c hc).1.trans (g c hc).1, (h c hc).2.1.trans (g c hc).2.1, (h c hc).2.2.trans (g c hc).2.2⟩
theorem sk.high {n : Nat} {S T : Nat → Int32} (h : sk n S T) {c : Nat} (hc : c < n) : highS S c = highS T c := by
  obtain ⟨h1, h2, h3⟩ := h c hc
  rw [highS, highS, h1, h2, h3]
theorem sk_abv {n : Nat} {S T : Nat → Int32} (h : sk n S T) {o c : Nat} (ho : o < n) (hc : c < n) : abv S o c = abv T o c := by
  unfold abv
  rw [h.high ho, h.high hc]
theorem sk.rank {n : Nat} {S T : Nat → Int32} (h : sk n S T) {c : Nat} (hc : c < n) : rankN S c n = rankN T c n := by
  rw [rankN_ct, rankN_ct]
  exact fb_ct_cong (fun k hk => sk_abv h hk hc)
theorem sk.at {n : Nat} {S T : Nat → Int32} (h : sk n S T) (r : Int32) : ∀ m, m ≤ n → atN S n r m = atN T n r m
  | 0, _ => rfl
  | m + 1, hm => by rw [atN, atN, h.rank (by omega), h.at r m (by omega)]
theorem sk.sum {n : Nat} {S T : Nat → Int32} (h : sk n S T) : ∀ m, m ≤ n → sumN S 11 m = sumN T 11 m
  | 0, _ => rfl
  | m + 1, hm => by rw [sumN, sumN, h.sum m (by omega), (h m (by omega)).2.1]
theorem sk.who {n : Nat} {S T : Nat → Int32} (h : sk n S T) {c : Nat} (hc : c < n) (hg : S (23 + c) = T (23 + c)) : whoS S n c = whoS T n c := by
  unfold whoS
  rw [hg, h.rank hc, h.at _ n (Nat.le_refl n), h.at _ n (Nat.le_refl n)]
def still (n : Nat) (S : Nat → Int32) : Prop := ∀ c, c < n → nightP S n (11 + c) = S (11 + c)
theorem still_sk {n : Nat} {S : Nat → Int32} (h : still n S) (hn : n ≤ 6) : sk n (nightP S n) S := fun c hc => ⟨night_o S hn (by omega) (by omega), h c hc, night_o S hn (by omega) (by omega)⟩
theorem oN_still {n : Nat} {S : Nat → Int32} (h : still n S) (hn1 : 0 < n) (hn : n ≤ 6) {c : Nat} (hc : c < n) : ∀ s, s ≤ n → oN (nightP S n) n s c = oN S n s c
  | 0, _ => rfl
  | s + 1, hs => by
    rw [oN, oN, oN_still h hn1 hn hc s (by omega)]
    congr 1
    have hsk := still_sk h hn
    have e4 : nightP S n 4 = S 4 := night_o S hn (by omega) (by omega)
    have eg : nightP S n (23 + s) = S (23 + s) := night_o S hn (by omega) (by omega)
    have ew := hsk.who (show s < n by omega) eg
    have ek : nightP S n (5 + c) = S (5 + c) := night_o S hn (by omega) (by omega)
    have es := night_saw (S := S) hn (show s < n by omega)
    rw [e4]
    by_cases hw : hasB (S 4) (nI c)
    · rw [if_neg (fun z => z.2 hw), if_neg (fun z => z.2 hw)]
    by_cases ht : tgtS S n s = nI c
    · have hnc : ¬ isC S n s := fun z => hw (by have := z.2; rw [ht] at this; exact this)
      rw [if_neg hnc, sub0] at es
      have ht2 : tgtS (nightP S n) n s = nI c := by
        rw [← ht]
        unfold tgtS
        rw [es, ew]
      rw [if_pos ⟨ht2, hw⟩, if_pos ⟨ht, hw⟩]
      unfold sawA swS
      rw [ek, es]
    · rw [if_neg (show ¬ (tgtS S n s = nI c ∧ ¬ hasB (S 4) (nI c)) from fun z => ht z.1), if_neg]
      rintro ⟨z, -⟩
      unfold tgtS at z ht
      rw [ew] at z
      by_cases h1 : nightP S n (17 + s) = 0 ∨ whoS S n s = nI s
      · rw [if_pos h1] at z
        exact (by decide : ∀ d, d < 6 → cNone ≠ nI d) c (by omega) z
      · rw [if_neg h1] at z
        by_cases h2 : S (17 + s) = 0 ∨ whoS S n s = nI s
        · rcases h2 with h2 | h2
          · have hnc : ¬ isC S n s := fun y => isC_sw y h2
            rw [if_neg hnc, sub0] at es
            exact h1 (Or.inl (es.trans h2))
          · exact h1 (Or.inr h2)
        · rw [if_neg h2] at ht
          exact ht z
theorem still.next {n : Nat} {S : Nat → Int32} (h : still n S) (hR : Rg n S) (hn1 : 0 < n) : still n (nightP S n) := by
  intro c hc
  have hn := hR.1
  have e := h c hc
  rw [night_leg hn1 hn hR.2.2.2.2 hc] at e
  rw [night_leg hn1 hn (hR.night hn1).2.2.2.2 hc, oN_still h hn1 hn hc n (Nat.le_refl n)]
  have l0 := (hR.2.2.2.2 c hc).lg
  have e2 : nightP S n (11 + c) = S (11 + c) := h c hc
  have : lgS (nightP S n) c = lgS S c := by unfold lgS; rw [e2]
  rw [this, e, e2]
theorem still.go {n : Nat} {S : Nat → Int32} (h : still n S) (hR : Rg n S) (hn1 : 0 < n) : ∀ k, still n (goP S n k) ∧ sk n (goP S n k) S
  | 0 => ⟨h, sk.refl _ _⟩
  | k + 1 => by
    obtain ⟨h1, h2⟩ := still.go h hR hn1 k
    exact ⟨h1.next (hR.go hn1 k) hn1, (still_sk h1 hR.1).trans h2⟩
theorem goP_add (S : Nat → Int32) (n a : Nat) : ∀ b, goP S n (a + b) = goP (goP S n a) n b
  | 0 => rfl
  | b + 1 => by rw [← Nat.add_assoc, goP, goP, goP_add S n a b]
/-- once nothing is sawn off, nothing more is -/
theorem still.far {n : Nat} {S : Nat → Int32} {a b : Nat} (h : still n (goP S n a)) (hR : Rg n S) (hn1 : 0 < n) (hab : a ≤ b) : sk n (goP S n b) (goP S n a) := by
  obtain ⟨d, rfl⟩ := Nat.exists_eq_add_of_le hab
  rw [goP_add]
  exact (h.go (hR.go hn1 a) hn1 d).2
theorem sumN_n {n : Nat} {S : Nat → Int32} (hR : ∀ c, c < n → Rc S c) : ∀ m, m ≤ n → sumN S 11 m = nI (fb_sm (lgS S) m)
  | 0, _ => rfl
  | m + 1, hm => by rw [sumN, sumN_n hR m (by omega), fb_sm_succ, (hR m (by omega)).lg.1, nI_add]
theorem sum_le {n : Nat} {S : Nat → Int32} (hR : ∀ c, c < n → Rc S c) : fb_sm (lgS S) n ≤ n * 60 := fb_sm_bound (fun k hk => (hR k hk).lg.2)
theorem still_sum {n : Nat} {S : Nat → Int32} (hR : Rg n S) (hn1 : 0 < n) : sumN (nightP S n) 11 n = sumN S 11 n ↔ still n S := by
  have hn := hR.1
  have hR2 := hR.night hn1
  constructor
  · intro h
    rw [sumN_n hR.2.2.2.2 n (Nat.le_refl n), sumN_n hR2.2.2.2.2 n (Nat.le_refl n)] at h
    have b1 := sum_le hR.2.2.2.2
    have b2 := sum_le hR2.2.2.2.2
    have h1 := (nI_eq (by omega) (by omega)).mp h
    have hl : ∀ c, c < n → lgS (nightP S n) c = lgS S c - oN S n n c := fun c hc => by
      have l0 := (hR.2.2.2.2 c hc).lg
      unfold lgS
      rw [night_leg hn1 hn hR.2.2.2.2 hc, nI_clamp (by omega)]
    have h2 : fb_sm (lgS S) n = fb_sm (fun c => lgS (nightP S n) c + (lgS S c - lgS (nightP S n) c)) n := fb_sm_cong (fun k hk => by have := hl k hk; omega)
    rw [fb_sm_add] at h2
    have h3 := fb_sm_zero (f := fun c => lgS S c - lgS (nightP S n) c) (n := n) (by omega)
    intro c hc
    have h4 := h3 c hc
    have h5 := hl c hc
    rw [(hR.2.2.2.2 c hc).lg.1, (hR2.2.2.2.2 c hc).lg.1]
    congr 1
    omega
  · intro h
    exact (still_sk h hn).sum n (Nat.le_refl n)
/-! ministries in memory -/
theorem ms.fr {o n : Nat} {S : Nat → Int32} {M N : Mem} (h : ms o n S M) (hq : ∀ q, o ≤ q → q ≤ o + 6 → N q = M q) : ms o n S N := by
  obtain ⟨h1, h2, h3, h4, h5, h6⟩ := h
  unfold ms
  rw [hq o (by omega) (by omega), hq (o + 1) (by omega) (by omega), hq (o + 2) (by omega) (by omega), hq (o + 3) (by omega) (by omega), hq (o + 4) (by omega) (by omega), hq (o + 5) (by omega) (by omega), hq (o + 6) (by omega) (by omega)]
  exact ⟨h1, h2, h3, h4, h5, h6⟩
/-- only the scratch rows of the ministry at o changed -/
def fr3 (o : Nat) (M N : Mem) : Prop := ∀ q, q ≠ o + 7 → q ≠ o + 8 → q ≠ o + 9 → N q = M q
theorem fr3.refl (o : Nat) (M : Mem) : fr3 o M M := fun _ _ _ _ => rfl
theorem fr3.trans {o : Nat} {M N K : Mem} (h : fr3 o M N) (g : fr3 o N K) : fr3 o M K := fun q a b c => (g q a b c).trans (h q a b c)
theorem fr3.ms {o n : Nat} {S : Nat → Int32} {M N : Mem} (h : fr3 o M N) (g : ms o n S M) : ms o n S N := g.fr (fun q _ _ => h q (by omega) (by omega) (by omega))
theorem fr3.put {o : Nat} {M N : Mem} (h : fr3 o M N) (e j : Nat) (v : Int32) (he : e = o + 7 ∨ e = o + 8 ∨ e = o + 9) : fr3 o M (mset N e j v) := fun q a b c => by rw [mset_ne _ _ _ (by omega)]; exact h q a b c
/-- the ranks as the class keeps them -/
def rk (o n : Nat) (S : Nat → Int32) (N : Mem) : Prop := ∀ c, c < n → N (o + 8) c = nI (rankN S c n) ∧ N (o + 9) (rankN S c n) = nI c
/-- only the ministry at o changed -/
def fro (o : Nat) (M N : Mem) : Prop := ∀ q, q < o ∨ o + 9 < q → N q = M q
theorem fro.refl (o : Nat) (M : Mem) : fro o M M := fun _ _ => rfl
theorem fro.trans {o : Nat} {M N K : Mem} (h : fro o M N) (g : fro o N K) : fro o M K := fun q a => (g q a).trans (h q a)
theorem fr3.fro {o : Nat} {M N : Mem} (h : fr3 o M N) : fro o M N := fun q a => h q (by omega) (by omega) (by omega)
theorem fro.put {o : Nat} {M N : Mem} (h : fro o M N) (e j : Nat) (v : Int32) (h1 : o ≤ e) (h2 : e ≤ o + 9) : fro o M (mset N e j v) := fun q a => by rw [mset_ne _ _ _ (by omega)]; exact h q a
/-- half-reckoned ranks: pairs with the lower one below i, and (i, x) with x below j -/
def rkP (S : Nat → Int32) (n i j x : Nat) : Nat := if x < i then rankN S x n else if x = i then rankN S x j else if x < j then rankN S x (i + 1) else rankN S x i
theorem rkP_0 (S : Nat → Int32) (n x : Nat) : rkP S n 0 1 x = 0 := by
  unfold rkP
  rw [if_neg (by omega)]
  by_cases h : x = 0
  · subst h
    rw [if_pos rfl]
    show 0 + (if abv S 0 0 = true then 1 else 0) = 0
    rw [abv_irr]
    rfl
  · rw [if_neg h, if_neg (by omega)]
    rfl
theorem rkP_i (S : Nat → Int32) {n i x : Nat} (hx : x < n) : rkP S n (i + 1) (i + 2) x = rkP S n i n x := by
  unfold rkP
  by_cases h1 : x < i
  · rw [if_pos (by omega), if_pos h1]
  by_cases h2 : x = i
  · subst h2
    rw [if_pos (by omega), if_neg (by omega), if_pos rfl]
  rw [if_neg (show ¬ x < i + 1 by omega), if_neg (show ¬ x < i by omega), if_neg (show ¬ x = i by omega), if_pos hx]
  by_cases h3 : x = i + 1
  · subst h3
    rw [if_pos rfl, rankN, abv_irr]
    rfl
  · rw [if_neg h3, if_neg (by omega)]
theorem rkP_e (S : Nat → Int32) {n x : Nat} (j : Nat) (hx : x < n) : rkP S n n j x = rankN S x n := by
  unfold rkP
  rw [if_pos hx]
theorem rkP_s (S : Nat → Int32) (n : Nat) {i j x : Nat} (hij : i < j) : rkP S n i (j + 1) x = rkP S n i j x + (if x = i ∧ abv S j i = true then 1 else 0) + (if x = j ∧ ¬ abv S j i = true then 1 else 0) := by
  unfold rkP
  by_cases h1 : x < i
  · rw [if_pos h1, if_pos h1, if_neg (by omega), if_neg (by omega)]
    rfl
  rw [if_neg h1, if_neg h1]
  by_cases h2 : x = i
  · subst h2
    rw [if_pos rfl, if_pos rfl, rankN, if_neg (show ¬ (x = j ∧ ¬ abv S j x = true) by omega)]
    by_cases h3 : abv S j x = true
    · rw [if_pos h3, if_pos ⟨rfl, h3⟩]
    · rw [if_neg h3, if_neg (fun z => h3 z.2)]
  rw [if_neg h2, if_neg h2, if_neg (show ¬ (x = i ∧ abv S j i = true) from fun z => h2 z.1)]
  by_cases h4 : x = j
  · subst h4
    rw [if_pos (by omega), if_neg (by omega), rankN]
    by_cases h3 : abv S x i = true
    · have h5 : ¬ abv S i x = true := fun z => by
        have a := (abv_iff S x i).mp h3
        have b := (abv_iff S i x).mp z
        omega
      rw [if_neg h5, if_neg (fun z => z.2 h3)]
    · have h5 : abv S i x = true := (abv_iff S i x).mpr (by have := mt (abv_iff S x i).mpr h3; omega)
      rw [if_pos h5, if_pos ⟨rfl, h3⟩]
  · rw [if_neg (show ¬ (x = j ∧ ¬ abv S j i = true) from fun z => h4 z.1)]
    by_cases h6 : x < j
    · rw [if_pos (by omega), if_pos h6]
      rfl
    · rw [if_neg (by omega), if_neg h6]
      rfl
theorem abv_lt {S : Nat → Int32} {i j : Nat} (h : i < j) : abv S j i = true ↔ highS S i < highS S j := by
  rw [abv_iff, fa_lt]
  omega

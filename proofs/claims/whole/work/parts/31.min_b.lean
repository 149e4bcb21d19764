theorem hi_s {o j : Nat} {N : Mem} {H : Nat → Int32} (h : ∀ c, c < j → N (o + 7) c = H c ∧ N (o + 8) c = nI 0) : ∀ c, c < j + 1 → mset (mset N (o + 7) j (H j)) (o + 8) j (nI 0) (o + 7) c = H c ∧ mset (mset N (o + 7) j (H j)) (o + 8) j (nI 0) (o + 8) c = nI 0 := by
  intro c hc
  rw [mset_ne _ _ _ (by omega), mset_eq, mset_eq, mset_ne _ _ _ (by omega)]
  by_cases e : c = j
  · subst e; rw [pk_us, pk_us]; exact ⟨rfl, rfl⟩
  · rw [pk_un e, pk_un e]; exact h c (by omega)
theorem rk_s1 {o n i j : Nat} {K : Mem} {S : Nat → Int32} (h : ∀ c, c < n → K (o + 8) c = nI (rkP S n i j c)) (hij : i < j) (ha : abv S j i = true) : ∀ c, c < n → mset K (o + 8) i (nI (rkP S n i j i + 1)) (o + 8) c = nI (rkP S n i (j + 1) c) := by
  intro c hc
  rw [mset_eq, rkP_s S n hij]
  by_cases e : c = i
  · subst e
    rw [pk_us, if_pos ⟨rfl, ha⟩, if_neg (by omega)]
  · rw [pk_un e, h c hc, if_neg (fun z => e z.1), if_neg (fun z => z.2 ha)]
    rfl
theorem rk_s2 {o n i j : Nat} {K : Mem} {S : Nat → Int32} (h : ∀ c, c < n → K (o + 8) c = nI (rkP S n i j c)) (hij : i < j) (ha : ¬ abv S j i = true) : ∀ c, c < n → mset K (o + 8) j (nI (rkP S n i j j + 1)) (o + 8) c = nI (rkP S n i (j + 1) c) := by
  intro c hc
  rw [mset_eq, rkP_s S n hij]
  by_cases e : c = j
  · subst e
    rw [pk_us, if_neg (fun z => ha z.2), if_pos ⟨rfl, ha⟩]
  · rw [pk_un e, h c hc, if_neg (fun z => ha z.2), if_neg (fun z => e z.1)]
    rfl
theorem or_s {o n i : Nat} {N : Mem} {S : Nat → Int32} (hi : i < n) (h : ∀ c, c < i → N (o + 9) (rankN S c n) = nI c) : ∀ c, c < i + 1 → mset N (o + 9) (rankN S i n) (nI i) (o + 9) (rankN S c n) = nI c := by
  intro c hc
  rw [mset_eq]
  by_cases e : c = i
  · subst e; rw [pk_us]
  · rw [pk_un (rank_ne (by omega) hi e)]; exact h c (by omega)
theorem tgt_0 {S : Nat → Int32} {n c : Nat} (h : S (17 + c) = 0) : tgtS S n c = cNone := if_pos (Or.inl h)
theorem tgt_w {S : Nat → Int32} {n c : Nat} {w : Int32} (h : ¬ S (17 + c) = 0) (hw : whoS S n c = w) (hne : w ≠ nI c) : tgtS S n c = w := by
  unfold tgtS
  rw [hw, if_neg (by rintro (z | z); exact h z; exact hne z)]
theorem tgt_n {S : Nat → Int32} {n c : Nat} (h : whoS S n c = cNone ∨ whoS S n c = nI c) : tgtS S n c = cNone := by
  unfold tgtS
  rcases h with h | h
  · rw [h]; split <;> rfl
  · rw [if_pos (Or.inr h)]
theorem prey_1 {o n c r : Nat} {S : Nat → Int32} {M : Mem} (hn : n ≤ 6) (hrk : rk o n S M) (hc : c < n) (hs : ¬ S (17 + c) = 0) (hg : S (23 + c) = nI 1) (hr : rankN S c n = r) (h0 : r ≠ 0) : M (o + 9) (r - 1) = tgtS S n c := by
  have hlt := rank_lt S hc
  obtain ⟨d, hd, ed⟩ := rank_all S (n := n) (r := r - 1) (by omega)
  have h1 := (hrk d hd).2
  rw [ed] at h1
  rw [h1]
  refine (tgt_w hs ?_ (fun z => ?_)).symm
  · unfold whoS
    rw [if_pos hg, hr, pk_sub (by omega), ← ed, atN_r S hd hn]
  · have := (nI_eq (by omega) (by omega)).mp z
    subst this
    omega
theorem prey_1n {n c : Nat} {S : Nat → Int32} (hn : n ≤ 6) (hg : S (23 + c) = nI 1) (hr : rankN S c n = 0) : cNone = tgtS S n c := by
  refine (tgt_n (Or.inl ?_)).symm
  unfold whoS
  rw [if_pos hg, hr, atN_no S hn n (Nat.le_refl n)]
theorem who_2 {n c : Nat} {S : Nat → Int32} (hg : S (23 + c) = nI 2) : whoS S n c = atN S n (nI 0) n := by
  unfold whoS
  rw [if_neg (by rw [hg]; decide), if_pos hg]
theorem prey_2 {o n c : Nat} {S : Nat → Int32} {M : Mem} (hn : n ≤ 6) (hrk : rk o n S M) (hc : c < n) (hs : ¬ S (17 + c) = 0) (hg : S (23 + c) = nI 2) (h0 : rankN S c n ≠ 0) : M (o + 9) 0 = tgtS S n c := by
  obtain ⟨d, hd, ed⟩ := rank_all S (n := n) (r := 0) (by omega)
  have h1 := (hrk d hd).2
  rw [ed] at h1
  rw [h1]
  refine (tgt_w hs ?_ (fun z => ?_)).symm
  · rw [who_2 hg, ← ed, atN_r S hd hn]
  · have := (nI_eq (by omega) (by omega)).mp z
    subst this
    omega
theorem prey_2n {n c : Nat} {S : Nat → Int32} (hn : n ≤ 6) (hc : c < n) (hg : S (23 + c) = nI 2) (h0 : rankN S c n = 0) : cNone = tgtS S n c := by
  refine (tgt_n (Or.inr ?_)).symm
  rw [who_2 hg]
  have := atN_r S hc hn
  rw [h0] at this
  exact this
theorem who_3 {n c : Nat} {S : Nat → Int32} (hg : S (23 + c) = nI 3) : whoS S n c = nI ((c + 1) % n) := by
  unfold whoS
  rw [if_neg (by rw [hg]; decide), if_neg (by rw [hg]; decide), if_pos hg]
theorem who_0 {n c : Nat} {S : Nat → Int32} (hg : ∀ q, 1 ≤ q → q ≤ 3 → q < 2 ^ 31 → ¬ S (23 + c) = nI q) : cNone = tgtS S n c := by
  refine (tgt_n (Or.inl ?_)).symm
  unfold whoS
  rw [if_neg (hg 1 (by omega) (by omega) (by omega)), if_neg (hg 2 (by omega) (by omega) (by omega)), if_neg (hg 3 (by omega) (by omega) (by omega))]
theorem max_sub {L x : Nat} (hL : L ≤ 60) (hx : x ≤ 9) : (if nI 0 < nI L - nI x then nI L - nI x else nI 0) = nI (L - x) := by
  have e := gapI (x := L) (y := x) (by omega) (by omega)
  have z : (nI 0).toInt = 0 := rfl
  by_cases h : x < L
  · rw [if_pos (by rw [fa_lt, e, z]; omega), pk_sub (by omega)]
  · rw [if_neg (by rw [fa_lt, e, z]; omega), show L - x = 0 by omega]
def lsN (S : Nat → Int32) (n s : Nat) : Prop := ∃ c, c < n ∧ lgS S c - oN S n s c < lgS S c
def ngI (o n : Nat) (S : Nat → Int32) (M : Mem) (s : Nat) (u : Int32) (N : Mem) : Prop := fro o M N ∧ N o = M o ∧ rk o n S N ∧ (∀ c, c < n → N (o + 1) c = S (5 + c) ∧ N (o + 2) c = nI (lgS S c - oN S n s c) ∧ N (o + 3) c = S (29 + c) ∧ N (o + 4) c = S (17 + c) - (if c < s ∧ isC S n c then nI 1 else nI 0) ∧ N (o + 5) c = S (23 + c) ∧ N (o + 6) c = S (35 + c) + (if c < s ∧ isC S n c then nI 1 else nI 0)) ∧ ((u = nI 1 ∧ lsN S n s) ∨ (u = nI 0 ∧ ¬ lsN S n s))
theorem add0 (x : Int32) : x + nI 0 = x := Int32.add_zero x
theorem ngI_0 {o n : Nat} {S : Nat → Int32} {M N : Mem} (hm : ms o n S M) (hR : Rg n S) (hf : fr3 o M N) (hr : rk o n S N) : ngI o n S M 0 (nI 0) N := by
  refine ⟨hf.fro, hf o (by omega) (by omega) (by omega), hr, fun c hc => ?_, Or.inr ⟨rfl, ?_⟩⟩
  · have h2 := (hf.ms hm).2.2.2.2.2 c hc
    rw [if_neg (fun z => absurd z.1 (Nat.not_lt_zero c)), sub0, add0]
    refine ⟨h2.1, ?_, h2.2.2.1, h2.2.2.2.1, h2.2.2.2.2.1, h2.2.2.2.2.2⟩
    rw [h2.2.1, (hR.c hc).lg.1]
    rfl
  · rintro ⟨c, -, h⟩
    simp [oN] at h
theorem if_s {n c s : Nat} {S : Nat → Int32} (h : ¬ isC S n s) : (if c < s + 1 ∧ isC S n c then nI 1 else nI 0) = (if c < s ∧ isC S n c then nI 1 else nI 0) := by
  by_cases h2 : c < s ∧ isC S n c
  · rw [if_pos h2, if_pos ⟨by omega, h2.2⟩]
  · rw [if_neg h2, if_neg]
    rintro ⟨z1, z2⟩
    refine h2 ⟨Nat.lt_of_le_of_ne (by omega) (fun e => ?_), z2⟩
    subst e
    exact h z2
theorem oN_s0 {n c s : Nat} {S : Nat → Int32} (h : ¬ (tgtS S n s = nI c ∧ ¬ hasB (S 4) (nI c))) : oN S n (s + 1) c = oN S n s c := by
  rw [oN, if_neg h]
  rfl
theorem lsN_e {n s : Nat} {S : Nat → Int32} (h : ∀ c, c < n → oN S n (s + 1) c = oN S n s c) : lsN S n (s + 1) ↔ lsN S n s := by
  unfold lsN
  constructor
  · rintro ⟨c, hc, z⟩; rw [h c hc] at z; exact ⟨c, hc, z⟩
  · rintro ⟨c, hc, z⟩; exact ⟨c, hc, by rw [h c hc]; exact z⟩
theorem ngI_a {o n s : Nat} {S : Nat → Int32} {M N : Mem} {u : Int32} (h : ngI o n S M s u N) (hn : n ≤ 6) (ht : tgtS S n s = cNone) : ngI o n S M (s + 1) u N := by
  obtain ⟨h1, h2, h3, h4, h5⟩ := h
  have hc0 : ∀ c, c < n → oN S n (s + 1) c = oN S n s c := fun c hc => oN_s0 (by rw [ht]; exact fun z => (by decide : ∀ d, d < 6 → cNone ≠ nI d) c (by omega) z.1)
  have hi : ¬ isC S n s := fun z => z.1 (by rw [ht]; decide)
  refine ⟨h1, h2, h3, fun c hc => ?_, by rw [lsN_e hc0]; exact h5⟩
  rw [hc0 c hc, if_s hi]
  exact h4 c hc
theorem ngI_b {o n s d : Nat} {S : Nat → Int32} {M N : Mem} {u : Int32} (h : ngI o n S M s u N) (hn : n ≤ 6) (hs : s < n) (hd : d < n) (ht : tgtS S n s = nI d) (hw : hasB (S 4) (nI d)) : ngI o n S M (s + 1) u (mset (mset N (o + 6) s (N (o + 6) s + nI 1)) (o + 4) s (N (o + 4) s - nI 1)) := by
  obtain ⟨h1, h2, h3, h4, h5⟩ := h
  have hc0 : ∀ c, c < n → oN S n (s + 1) c = oN S n s c := fun c hc => oN_s0 (fun z => by
    have e := (nI_eq (by omega) (by omega)).mp (z.1.symm.trans ht)
    subst e
    exact z.2 hw)
  have hi : isC S n s := ⟨by rw [ht]; exact nI_pos (by omega), by rw [ht]; exact hw⟩
  refine ⟨(h1.put _ _ _ (by omega) (by omega)).put _ _ _ (by omega) (by omega), by rw [mset_ne _ _ _ (by omega), mset_ne _ _ _ (by omega)]; exact h2, fun c hc => by rw [mset_ne _ _ _ (by omega), mset_ne _ _ _ (by omega), mset_ne _ _ _ (by omega), mset_ne _ _ _ (by omega)]; exact h3 c hc, fun c hc => ?_, by rw [lsN_e hc0]; exact h5⟩
  obtain ⟨a1, a2, a3, a4, a5, a6⟩ := h4 c hc
  rw [hc0 c hc, mset_ne (q := o + 1) _ _ _ (by omega), mset_ne (q := o + 1) _ _ _ (by omega), mset_ne (q := o + 2) _ _ _ (by omega), mset_ne (q := o + 2) _ _ _ (by omega), mset_ne (q := o + 3) _ _ _ (by omega), mset_ne (q := o + 3) _ _ _ (by omega), mset_ne (q := o + 5) _ _ _ (by omega), mset_ne (q := o + 5) _ _ _ (by omega), mset_ne (q := o + 6) _ _ _ (by omega), mset_eq, mset_eq, mset_ne (q := o + 4) _ _ _ (by omega)]
  by_cases e : c = s
  · subst e
    rw [if_neg (fun z => Nat.lt_irrefl _ z.1), sub0] at a4
    rw [if_neg (fun z => Nat.lt_irrefl _ z.1), add0] at a6
    rw [pk_us, pk_us, if_pos ⟨by omega, hi⟩, a4, a6]
    exact ⟨a1, a2, a3, rfl, a5, rfl⟩
  · have e2 : (if c < s + 1 ∧ isC S n c then nI 1 else nI 0) = (if c < s ∧ isC S n c then nI 1 else nI 0) := by
      by_cases z : c < s ∧ isC S n c
      · rw [if_pos z, if_pos ⟨by omega, z.2⟩]
      · rw [if_neg z, if_neg (fun y => z ⟨by omega, y.2⟩)]
    rw [pk_un e, pk_un e, e2]
    exact ⟨a1, a2, a3, a4, a5, a6⟩
theorem ngI_c {o n s d : Nat} {S : Nat → Int32} {M N : Mem} {u u2 : Int32} (h : ngI o n S M s u N) (hn : n ≤ 6) (hd : d < n) (ht : tgtS S n s = nI d) (hw : ¬ hasB (S 4) (nI d)) (hu : (lgS S d - oN S n s d - sawA S s d < lgS S d - oN S n s d ∧ u2 = nI 1) ∨ (¬ lgS S d - oN S n s d - sawA S s d < lgS S d - oN S n s d ∧ u2 = u)) : ngI o n S M (s + 1) u2 (mset N (o + 2) d (nI (lgS S d - oN S n s d - sawA S s d))) := by
  obtain ⟨h1, h2, h3, h4, h5⟩ := h
  have hd1 : oN S n (s + 1) d = oN S n s d + sawA S s d := by rw [oN, if_pos ⟨ht, hw⟩]
  have hc0 : ∀ c, c < n → c ≠ d → oN S n (s + 1) c = oN S n s c := fun c hc hcd => oN_s0 (fun z => hcd ((nI_eq (by omega) (by omega)).mp (z.1.symm.trans ht)))
  have hi : ¬ isC S n s := fun z => hw (by have := z.2; rw [ht] at this; exact this)
  refine ⟨h1.put _ _ _ (by omega) (by omega), by rw [mset_ne _ _ _ (by omega)]; exact h2, fun c hc => by rw [mset_ne _ _ _ (by omega), mset_ne _ _ _ (by omega)]; exact h3 c hc, fun c hc => ?_, ?_⟩
  · obtain ⟨a1, a2, a3, a4, a5, a6⟩ := h4 c hc
    rw [if_s hi, mset_ne (q := o + 1) _ _ _ (by omega), mset_eq, mset_ne (q := o + 3) _ _ _ (by omega), mset_ne (q := o + 4) _ _ _ (by omega), mset_ne (q := o + 5) _ _ _ (by omega), mset_ne (q := o + 6) _ _ _ (by omega)]
    by_cases e : c = d
    · subst e
      rw [pk_us, hd1, Nat.sub_sub]
      exact ⟨a1, rfl, a3, a4, a5, a6⟩
    · rw [pk_un e, hc0 c hc e]
      exact ⟨a1, a2, a3, a4, a5, a6⟩
  · rcases hu with ⟨z1, rfl⟩ | ⟨z1, rfl⟩
    · exact Or.inl ⟨rfl, d, hd, by rw [hd1]; omega⟩
    · have : lsN S n (s + 1) ↔ lsN S n s := by
        unfold lsN
        constructor
        · rintro ⟨c, hc, z⟩
          by_cases e : c = d
          · subst e; rw [hd1] at z; exact ⟨c, hc, by omega⟩
          · rw [hc0 c hc e] at z; exact ⟨c, hc, z⟩
        · rintro ⟨c, hc, z⟩
          by_cases e : c = d
          · subst e; exact ⟨c, hc, by rw [hd1]; omega⟩
          · exact ⟨c, hc, by rw [hc0 c hc e]; exact z⟩
      rw [this]
      exact h5
theorem ngI_e {o n : Nat} {S : Nat → Int32} {M N : Mem} {u : Int32} (h : ngI o n S M n u N) (hm : ms o n S M) (hR : Rg n S) (hn1 : 0 < n) : u = bI (¬ sumN (nightP S n) 11 n = sumN S 11 n) ∧ fro o M (mset N o 3 (N o 3 + nI 1)) ∧ ms o n (nightP S n) (mset N o 3 (N o 3 + nI 1)) := by
  obtain ⟨h1, h2, h3, h4, h5⟩ := h
  have hn := hR.1
  refine ⟨?_, h1.put _ _ _ (by omega) (by omega), ?_⟩
  · have hst : still n S ↔ ¬ lsN S n n := by
      constructor
      · rintro z ⟨c, hc, y⟩
        have := z c hc
        have l0 := (hR.c hc).lg
        rw [night_leg hn1 hn hR.2.2.2.2 hc, l0.1] at this
        have := (nI_eq (by omega) (by omega)).mp this
        omega
      · intro z c hc
        have l0 := (hR.c hc).lg
        rw [night_leg hn1 hn hR.2.2.2.2 hc, l0.1]
        congr 1
        exact Classical.byContradiction (fun y => z ⟨c, hc, by omega⟩)
    rcases h5 with ⟨e, z⟩ | ⟨e, z⟩
    · rw [e, bI_t]
      rw [still_sum hR hn1, hst]
      exact fun y => y z
    · rw [e, bI_f]
      rw [still_sum hR hn1, hst]
      exact fun y => y z
  · have g : ∀ j, j ≠ 3 → mset N o 3 (N o 3 + nI 1) o j = M o j := fun j hj => by rw [mset_eq, pk_un hj, h2]
    refine ⟨(g 0 (by omega)).trans hm.1, ?_, ?_, ?_, ?_, fun c hc => ?_⟩
    · rw [g 1 (by omega), hm.2.1, night_o S hn (by omega) (by omega)]
    · rw [g 2 (by omega), hm.2.2.1, night_o S hn (by omega) (by omega)]
    · rw [mset_eq, pk_us, night_3 S hn, h2, hm.2.2.2.1]
    · rw [g 4 (by omega), hm.2.2.2.2.1, night_o S hn (by omega) (by omega)]
    · obtain ⟨a1, a2, a3, a4, a5, a6⟩ := h4 c hc
      have e2 : (if c < n ∧ isC S n c then nI 1 else nI 0) = (if isC S n c then nI 1 else nI 0) := by
        by_cases z : isC S n c
        · rw [if_pos z, if_pos ⟨hc, z⟩]
        · rw [if_neg z, if_neg (fun y => z y.2)]
      rw [e2] at a4 a6
      rw [mset_ne _ _ _ (by omega), mset_ne _ _ _ (by omega), mset_ne _ _ _ (by omega), mset_ne _ _ _ (by omega), mset_ne _ _ _ (by omega), mset_ne _ _ _ (by omega), night_saw hn hc, night_cgt hn hc, night_leg hn1 hn hR.2.2.2.2 hc, night_o S hn (k := 5 + c) (by omega) (by omega), night_o S hn (k := 29 + c) (by omega) (by omega), night_o S hn (k := 23 + c) (by omega) (by omega)]
      exact ⟨a1, a2, a3, a4, a5, a6⟩

theorem Rg.put {n : Nat} {S : Nat → Int32} (h : Rg n S) {p k v : Nat} (hp : (p = 5 ∧ 1 ≤ v ∧ v ≤ 5) ∨ (p = 11 ∧ v ≤ 60) ∨ (p = 17 ∧ v ≤ 9) ∨ (p = 23 ∧ v ≤ 3) ∨ (p = 29 ∧ v ≤ 20)) (hk : k < 6) : Rg n (upd S (p + k) (nI v)) := by
  obtain ⟨h1, h2, h3, h4, h5⟩ := h
  refine ⟨h1, by rw [pk_un (by omega)]; exact h2, by rw [pk_un (by omega)]; exact h3, by rw [pk_un (by omega)]; exact h4, fun c hc => ?_⟩
  obtain ⟨a1, a2, a3, a4, a5⟩ := h5 c hc
  have g : ∀ (p' : Nat), p' + c ≠ p + k → upd S (p + k) (nI v) (p' + c) = S (p' + c) := fun p' z => pk_un z
  refine ⟨?_, ?_, ?_, ?_, ?_⟩
  · by_cases e : 5 + c = p + k
    · rw [e, pk_us]; exact ⟨v, by omega, by omega, rfl⟩
    · rw [g 5 e]; exact a1
  · by_cases e : 11 + c = p + k
    · rw [e, pk_us]; exact ⟨v, by omega, rfl⟩
    · rw [g 11 e]; exact a2
  · by_cases e : 17 + c = p + k
    · rw [e, pk_us]; exact ⟨v, by omega, rfl⟩
    · rw [g 17 e]; exact a3
  · by_cases e : 23 + c = p + k
    · rw [e, pk_us]; exact ⟨v, by omega, rfl⟩
    · rw [g 23 e]; exact a4
  · by_cases e : 29 + c = p + k
    · rw [e, pk_us]; exact ⟨v, by omega, rfl⟩
    · rw [g 29 e]; exact a5
def bwI (F : Nat → Int32) (j : Nat) (u t : Int32) : Prop := (j = 0 ∧ u = cNone ∧ t = -1) ∨ (0 < j ∧ u = (bwB F j).1 ∧ t = (bwB F j).2)
theorem bwI_n {F : Nat → Int32} {j : Nat} {u t : Int32} (h : bwI F j u t) (h0 : 0 ≤ F j) (hl : F j ≤ t) : bwI F (j + 1) u t := by
  rcases h with ⟨e, -, e2⟩ | ⟨e, e1, e2⟩
  · rw [e2] at hl
    rw [fa_le] at hl h0
    have z1 : (0 : Int32).toInt = 0 := rfl
    have z2 : (-1 : Int32).toInt = -1 := rfl
    omega
  · exact Or.inr ⟨by omega, by rw [bwB, ← e2, if_pos hl]; exact e1, by rw [bwB, ← e2]; exact (if_pos hl).symm⟩
theorem bwI_y {F : Nat → Int32} {j : Nat} {u t : Int32} (h : bwI F j u t) (h0 : 0 ≤ F j) (hl : ¬ F j ≤ t) : bwI F (j + 1) (nI j) (F j) := by
  rcases h with ⟨e, -, e2⟩ | ⟨e, e1, e2⟩
  · subst e
    have hn : ¬ F 0 ≤ -1 := by rw [← e2]; exact hl
    exact Or.inr ⟨by omega, by show nI 0 = (if F 0 ≤ -1 then nI 0 else nI 0); rw [if_neg hn], by show F 0 = (if F 0 ≤ -1 then -1 else F 0); rw [if_neg hn]⟩
  · exact Or.inr ⟨by omega, by rw [bwB, ← e2, if_neg hl], by rw [bwB, ← e2]; exact (if_neg hl).symm⟩
theorem high_nn {n c : Nat} {S : Nat → Int32} (h : Rg n S) (hc : c < n) : 0 ≤ highS S c := by
  obtain ⟨x, hx, e⟩ := (h.c hc).high
  rw [e]
  exact nI_pos' (by omega)
theorem sum_nn {n : Nat} {S : Nat → Int32} (h : Rg n S) : 0 ≤ sumN S 11 n := by
  rw [sumN_n h.2.2.2.2 n (Nat.le_refl n)]
  have := sum_le h.2.2.2.2
  have := h.1
  exact nI_pos' (by omega)
theorem or0 (x : Int32) : x ||| nI 0 = x := by
  show x ||| 0 = x
  exact Int32.or_zero
/-- climb -/
theorem cl_z {S : Nat → Int32} {n k : Nat} (hR : Rg n S) (hk : k < n) (h : ∀ o, o < n → o ≠ k → abv S k o = true) : ∀ m, m ≤ n → clN S k m = nI 0
  | 0, _ => rfl
  | m + 1, hm => by
    rw [clN, cl_z hR hk h m (by omega), if_neg]
    rintro ⟨z1, z2⟩
    apply z2
    obtain ⟨x, hx, ex⟩ := (hR.c hk).high
    obtain ⟨y, hy, ey⟩ := (hR.c (show m < n by omega)).high
    have ha := (abv_iff S k m).mp (h m (by omega) z1)
    have hn := hR.1
    rw [ex, ey, nI_toInt (by omega), nI_toInt (by omega)] at ha
    have hg := gapI hy hx
    have t0 : (nI 0).toInt = 0 := rfl
    have t1 : (nI 1).toInt = 1 := rfl
    rw [ex, ey, fa_le]
    by_cases e : nI k ≤ nI m
    · rw [if_pos e, add0, hg, t0]; omega
    · have e2 : m < k := Nat.not_le.mp (fun z => e (nI_le z (by omega)))
      rw [if_neg e, fb_addI (by rw [hg, t1]; omega) (by rw [hg, t1]; omega), hg, t1, t0]
      omega
theorem cl_f {S : Nat → Int32} {n k f x w : Nat} (hR : Rg n S) (hk : k < n) (hf : f < n) (hfk : f ≠ k) (h : ∀ o, o < n → o ≠ f → abv S f o = true) (ex : highS S k = nI x) (hx : x ≤ 100) (ew : highS S f = nI w) (hw : w ≤ 100) : ∀ m, m ≤ n → ∃ d, d ≤ w - x + (if k ≤ f then 0 else 1) ∧ clN S k m = nI d ∧ (f < m → d = w - x + (if k ≤ f then 0 else 1))
  | 0, _ => ⟨0, Nat.zero_le _, rfl, fun z => absurd z (Nat.not_lt_zero f)⟩
  | m + 1, hm => by
    obtain ⟨d, hd, e, he⟩ := cl_f hR hk hf hfk h ex hx ew hw m (by omega)
    have hn := hR.1
    obtain ⟨y, hy, ey⟩ := (hR.c (show m < n by omega)).high
    have t0 : (nI 0).toInt = 0 := rfl
    have t1 : (nI 1).toInt = 1 := rfl
    have val : ((nI y - nI x) + (if nI k ≤ nI m then nI 0 else nI 1)).toInt = (y : Int) - x + (if k ≤ m then 0 else 1) := by
      have hg := gapI hy hx
      by_cases z : k ≤ m
      · rw [if_pos (nI_le z (by omega)), if_pos z, add0, hg]; omega
      · rw [if_neg (fun q => z ((nI_leI (by omega) (by omega)).mp q)), if_neg z, fb_addI (by rw [hg, t1]; omega) (by rw [hg, t1]; omega), hg, t1]
    have hkf := (abv_iff S f k).mp (h k hk (Ne.symm hfk))
    rw [ex, ew, nI_toInt (by omega), nI_toInt (by omega)] at hkf
    have hfm : m = f ∨ ((y : Int) < w ∨ ((w : Int) = y ∧ f < m)) := by
      by_cases z : m = f
      · exact Or.inl z
      · have := (abv_iff S f m).mp (h m (by omega) z)
        rw [ey, ew, nI_toInt (by omega), nI_toInt (by omega)] at this
        exact Or.inr this
    have hyw : m = f → y = w := fun z => by
      subst z
      exact (nI_eq (by omega) (by omega)).mp (ey.symm.trans ew)
    rw [clN, e, ex, ey]
    by_cases c1 : m ≠ k ∧ ¬ (nI y - nI x) + (if nI k ≤ nI m then nI 0 else nI 1) ≤ nI d
    · rw [if_pos c1]
      have c2 := c1.2
      rw [fa_le, val, nI_toInt (by split at hd <;> omega)] at c2
      refine ⟨y + (if k ≤ m then 0 else 1) - x, ?_, ?_, ?_⟩
      · split <;> split at c2 <;> split <;> omega
      · rw [fa_eq, val, nI_toInt (by split <;> omega)]
        split at c2 <;> split <;> omega
      · intro z
        have c3 := c1.1
        by_cases z2 : f < m
        · have := he z2
          split <;> split at c2 <;> split at this <;> split at hd <;> omega
        · have z3 : m = f := by omega
          have z4 := hyw z3
          split <;> split <;> omega
    · rw [if_neg c1]
      refine ⟨d, hd, rfl, fun z => ?_⟩
      by_cases z2 : f < m
      · exact he z2
      · have z3 : m = f := by omega
        have z4 := hyw z3
        have c2 : (nI y - nI x) + (if nI k ≤ nI m then nI 0 else nI 1) ≤ nI d := Classical.byContradiction (fun q => c1 ⟨by omega, q⟩)
        rw [fa_le, val, nI_toInt (by split at hd <;> omega)] at c2
        subst z3
        split at c2 <;> split at hd <;> split <;> omega
theorem cl_is {S : Nat → Int32} {n k f : Nat} (hR : Rg n S) (hk : k < n) (hf : f < n) (h0 : rankN S f n = 0) : (if nI k ≤ nI f then highS S f - highS S k else highS S f - highS S k + nI 1) = clN S k n := by
  have hn := hR.1
  have hab : ∀ o, o < n → o ≠ f → abv S f o = true := fun o ho hof => by
    by_cases z : abv S f o = true
    · exact z
    · have h2 : abv S o f = true := (abv_iff S o f).mpr (by have := mt (abv_iff S f o).mpr z; omega)
      have := rank_mono ho h2
      omega
  by_cases hfk : f = k
  · subst hfk
    rw [cl_z hR hk hab n (Nat.le_refl n), if_pos (Int32.le_refl _), Int32.sub_self]
    rfl
  · obtain ⟨x, hx, ex⟩ := (hR.c hk).high
    obtain ⟨w, hw, ew⟩ := (hR.c hf).high
    obtain ⟨d, -, e, he⟩ := cl_f hR hk hf hfk hab ex hx ew hw n (Nat.le_refl n)
    have hkf := (abv_iff S f k).mp (hab k hk (Ne.symm hfk))
    rw [ex, ew, nI_toInt (by omega), nI_toInt (by omega)] at hkf
    rw [e, he hf, ex, ew, pk_sub (by omega)]
    by_cases z : k ≤ f
    · rw [if_pos (nI_le z (by omega)), if_pos z]; rfl
    · rw [if_neg (fun q => z ((nI_leI (by omega) (by omega)).mp q)), if_neg z, nI_add]
theorem drG_Rg {n c : Nat} {S : Nat → Int32} (h : Rg n S) (hc : c < n) (g : Bool) : Rg n (drG S c g) := by
  have hn := h.1
  have h1 : Rg n (upd S 4 (nI 1 <<< (nI c &&& 31))) := by rw [shl1 c (by omega)]; exact h.watch (Nat.pow_lt_pow_right (by decide) hc)
  unfold drG
  split
  · obtain ⟨l, hl, el⟩ : ∃ l, l ≤ 60 ∧ glueV (upd S 4 (nI 1 <<< (nI c &&& 31))) c = nI l := by
      obtain ⟨gl, hg1, hg2, eg⟩ := h1.2.2.1
      obtain ⟨l1, l2⟩ := (h1.c hc).lg
      unfold glueV
      rw [l1, eg, nI_add]
      split
      · exact ⟨_, (nI_leI (by omega) (by omega)).mp (by assumption), rfl⟩
      · exact ⟨60, Nat.le_refl _, rfl⟩
    rw [el]
    exact h1.put (p := 11) (by omega) (by omega)
  · exact h1
theorem drS_Rg {n q : Nat} {S : Nat → Int32} (h : Rg n S) (hn1 : 0 < n) : ∀ k, Rg n (drS S n q k)
  | 0 => h
  | k + 1 => (drG_Rg (drS_Rg h hn1 k) (Nat.mod_lt _ hn1) _).night hn1

/-! MEMORY: cell number, place, int. 0..13 the reference, 14..86 the class; what refers to what is fixed -/
abbrev Mem : Type := Nat → Nat → Int32
def setA (M : Mem) (k : Nat) (g : Nat → Int32) : Mem := fun q => if q = k then g else M q
def mset (M : Mem) (k j : Nat) (v : Int32) : Mem := setA M k (upd (M k) j v)
theorem setA_eq (M : Mem) (k : Nat) (g : Nat → Int32) : setA M k g k = g := if_pos rfl
theorem setA_ne (M : Mem) {k q : Nat} (g : Nat → Int32) (h : q ≠ k) : setA M k g q = M q := if_neg h
theorem mset_eq (M : Mem) (k j : Nat) (v : Int32) : mset M k j v k = upd (M k) j v := setA_eq _ _ _
theorem mset_ne (M : Mem) {k q : Nat} (j : Nat) (v : Int32) (h : q ≠ k) : mset M k j v q = M q := setA_ne _ _ h
/-- class numbers and slots; int[], boolean[], Row[], int[][]; addresses -/
abbrev Gx : Type := va_G × ClassId × ClassId × ClassId × ClassId × (Nat → Nat)
abbrev gA (G : Gx) : Nat → Nat := G.2.2.2.2.2
def clsO (k : Nat) : Option Nat := if k = 0 then some 6 else if k = 14 then some 5 else if k = 16 then some 4 else if k = 18 then some 2 else if k = 28 then some 2 else if k = 40 then some 1 else if k = 43 then some 0 else if 45 ≤ k ∧ k < 53 then some 3 else none
def lenA (k : Nat) : Nat := if k = 1 then 8 else if k = 2 then 8 else if k = 3 then 320 else if k = 5 then 40 else if k = 6 then 120 else if k = 8 then 6 else if k = 9 then 984 else if k = 11 then 2 else if k = 12 then 82 else if k = 13 then 16 else if k = 17 then 120 else if k = 39 then 6 else if k = 44 then 16 else if 19 ≤ k ∧ k < 38 then 6 else if 53 ≤ k ∧ k < 61 then 40 else 41
def fsO (G : Gx) (c k : Nat) (m : Nat → Int32) : List Value := match c with
  | 0 => [.ref (gA G (k + 1)), .int (m 1)]
  | 1 => [.ref (gA G (k + 1)), .int (m 1), .int (m 2)]
  | 2 => [.int (m 0), .int (m 1), .int (m 2), .int (m 3), .int (m 4), .ref (gA G (k + 1)), .ref (gA G (k + 2)), .ref (gA G (k + 3)), .ref (gA G (k + 4)), .ref (gA G (k + 5)), .ref (gA G (k + 6)), .ref (gA G (k + 7)), .ref (gA G (k + 8)), .ref (gA G (k + 9))]
  | 3 => [.ref (gA G (k + 8)), .int (m 1), .int (m 2)]
  | 4 => [.ref (gA G (k + 1)), .int (m 1), .int (m 2), .int (m 3)]
  | 5 => [.ref (gA G 15), .ref (gA G 16), .ref (gA G 18), .ref (gA G 28), .ref (gA G 38), .ref (gA G 39), .ref (gA G 40), .ref (gA G 42), .ref (gA G 43), .int (m 9), .int (m 10), .int (m 11)]
  | _ => [.ref (gA G 1), .ref (gA G 2), .ref (gA G 3), .int (m 3), .int (m 4), .ref (gA G 4), .ref (gA G 5), .ref (gA G 6), .int (m 8), .int (m 9), .int (m 10), .int (m 11), .int (m 12), .int (m 13), .int (m 14), .ref (gA G 7), .ref (gA G 8), .int (m 17), .ref (gA G 9), .int (m 19), .ref (gA G 10), .ref (gA G 11), .ref (gA G 12), .ref (gA G 13), .int (m 24)]
def isIA (k : Nat) : Bool := (clsO k == none) && (k != 11 && (k != 15 && (k != 41 && (k != 42 && decide (k < 87)))))
def contE (G : Gx) (k : Nat) (m : Nat → Int32) : va_E := match clsO k with
  | some c => .inr (c, fsO G c k m)
  | none => if k = 15 then .inl (G.2.2.2.1, 8, .inr (.inr (.inr (.inr (fun j => some (gA G (45 + j))))))) else if k = 41 then .inl (G.2.2.2.2.1, 24, .inr (.inr (.inr (.inr (fun j => some (gA G (61 + j))))))) else if k = 42 then .inl (G.2.2.2.2.1, 2, .inr (.inr (.inr (.inr (fun j => some (gA G (85 + j))))))) else if k = 11 then .inl (G.2.2.1, 2, .inl m) else .inl (G.2.1, lenA k, .inl m)
def Wd (G : Gx) (M : Mem) : va_W := (List.range 87).map (fun k => (gA G k, contE G k (M k)))
theorem Wd_at (G : Gx) (M : Mem) {k : Nat} (h : k < 87) : (Wd G M)[k]? = some (gA G k, contE G k (M k)) := by
  unfold Wd
  rw [List.getElem?_map, List.getElem?_range h]
  rfl
theorem Wd_len (G : Gx) (M : Mem) : (Wd G M).length = 87 := by simp [Wd]
theorem Wd_set (G : Gx) (M : Mem) {k : Nat} (h : k < 87) (g : Nat → Int32) {e : va_E} (he : contE G k g = e) : (Wd G M).set k (gA G k, e) = Wd G (setA M k g) := by
  apply List.ext_getElem?
  intro i
  by_cases hi : i < 87
  · by_cases e : i = k
    · subst e
      rw [List.getElem?_set_self (by rw [Wd_len]; exact h), Wd_at _ _ h, setA_eq, he]
    · rw [List.getElem?_set_ne (Ne.symm e), Wd_at _ _ hi, Wd_at _ _ hi, setA_ne _ _ e]
  · rw [List.getElem?_eq_none (by rw [List.length_set, Wd_len]; omega), List.getElem?_eq_none (by rw [Wd_len]; omega)]
theorem contE_IA (G : Gx) {k : Nat} (m : Nat → Int32) (h : isIA k = true) : contE G k m = .inl (G.2.1, lenA k, .inl m) := by
  simp only [isIA, Bool.and_eq_true, beq_iff_eq, bne_iff_ne, ne_eq, decide_eq_true_eq] at h
  obtain ⟨h1, h2, h3, h4, h5, -⟩ := h
  simp only [contE, h1, if_neg h2, if_neg h3, if_neg h4, if_neg h5]
theorem isIA_lt {k : Nat} (h : isIA k = true) : k < 87 := by
  simp only [isIA, Bool.and_eq_true, decide_eq_true_eq] at h
  exact h.2.2.2.2.2
theorem contE_cls (G : Gx) {k c : Nat} (m : Nat → Int32) (h : clsO k = some c) : contE G k m = .inr (c, fsO G c k m) := by
  simp only [contE, h]
theorem clsO_lt {k c : Nat} (h : clsO k = some c) : k < 87 := by
  unfold clsO at h
  repeat' split at h
  all_goals first | omega | cases h
theorem isIA_hi {k : Nat} (h1 : 53 ≤ k) (h2 : k < 87) : isIA k = true := by
  have : clsO k = none := by
    unfold clsO
    repeat' split
    all_goals first | omega | rfl
  simp only [isIA, this]
  simp
  omega
theorem clsO_row {k : Nat} (h1 : 45 ≤ k) (h2 : k < 53) : clsO k = some 3 := by
  unfold clsO
  repeat' split
  all_goals first | omega | rfl
theorem lenA_items {k : Nat} (h1 : 53 ≤ k) (h2 : k < 61) : lenA k = 40 := (by decide : ∀ k : Nat, k < 61 → 53 ≤ k → lenA k = 40) k h2 h1
theorem lenA_cells {k : Nat} (h1 : 61 ≤ k) (h2 : k < 87) : lenA k = 41 := (by decide : ∀ k : Nat, k < 87 → 61 ≤ k → lenA k = 41) k h2 h1
theorem lenA_le {o : Nat} (h : isIA o = true) : lenA o ≤ 984 := (by decide : ∀ k : Nat, k < 87 → lenA k ≤ 984) o (isIA_lt h)
/-- the cells of the world -/
def Ax (G : Gx) : Nat → Prop := fun q => ∃ k, k < 87 ∧ q = gA G k
def Inj (G : Gx) : Prop := ∀ i j : Nat, i < 87 → j < 87 → gA G i = gA G j → i = j
theorem Wd_mem {G : Gx} {M : Mem} {i : Nat} {p : Nat × va_E} (h : (Wd G M)[i]? = some p) : i < 87 ∧ p = (gA G i, contE G i (M i)) := by
  have hi : i < 87 := by
    have := (List.getElem?_eq_some_iff.mp h).1
    rwa [Wd_len] at this
  rw [Wd_at _ _ hi] at h
  exact ⟨hi, (Option.some.inj h).symm⟩
theorem Wd_D {G : Gx} (hG : Inj G) (M : Mem) : va_D (Ax G) (Wd G M) := by
  refine ⟨fun i j p q hp hq hpq => ?_, fun k q hk => ?_⟩
  · obtain ⟨h1, rfl⟩ := Wd_mem hp
    obtain ⟨h2, rfl⟩ := Wd_mem hq
    exact hG i j h1 h2 hpq
  · obtain ⟨h1, rfl⟩ := Wd_mem hk
    exact ⟨k, h1, rfl⟩
/-! WORDS -/
def gtbl : List Cond := lw_tbl.filter goodWord
def isNest : Cond → Bool
  | .methodLinkNest _ _ _ _ => true
  | _ => false
def ntbl : List Cond := lw_tbl.filter isNest
theorem in_g {w : Cond} (h : w ∈ lw_tbl) (hg : goodWord w = true) : w ∈ gtbl := List.mem_filter.mpr ⟨h, hg⟩
theorem in_n {w : Cond} (h : w ∈ lw_tbl) (hg : isNest w = true) : w ∈ ntbl := List.mem_filter.mpr ⟨h, hg⟩
theorem gtbl_good {w : Cond} (h : w ∈ gtbl) : (w.onTables && w.keeps) = true ∨ ∃ ty, w = .arrayClass ty := good_of_word (List.mem_filter.mp h).2
theorem good_gg {c c' : Cond} (h : c' ∈ gtbl) : GoodIn (c :: gtbl) (c' :: gtbl) := by
  intro w hw
  have hg : w ∈ gtbl := by
    rcases List.mem_cons.mp hw with rfl | h1
    · exact h
    · exact h1
  exact ⟨List.mem_cons_of_mem _ hg, gtbl_good hg⟩
theorem good_g {c' : Cond} (h : c' ∈ gtbl) : GoodIn gtbl (c' :: gtbl) := by
  intro w hw
  have hg : w ∈ gtbl := by
    rcases List.mem_cons.mp hw with rfl | h1
    · exact h
    · exact h1
  exact ⟨hg, gtbl_good hg⟩
def tysG (G : Gx) : List (ClassId × FieldType) := [(G.2.1, .int), (G.2.2.1, .boolean), (G.2.2.2.1, .object "ChairRanks$Row"), (G.2.2.2.2.1, .array .int)]
def kaF : Nat → Value := fun j => if j = 0 then .int (-1000000) else if j = 1 then .int 0 else if j = 2 then .int 1 else if j = 3 then .int 1 else if j = 4 then .int 0 else .int 4
/-- what stands besides the world: the table of kinds, the text of sorts -/
def Ex (G : Gx) (U : State) (H : Heap) : Prop :=
  va_Z "ChairRanks" "KIND_ABOVE" "[I" (.ref (gA G 89)) (Ax G) U H ∧ va_T .int (gA G 89) 6 kaF (Ax G) U H ∧
  vk_R "ChairRanks$Tape" 51 "prcot" (gA G 87) U ∧ vk_S 1 [5] [[112, 114, 99, 111, 116]] (fun _ => gA G 87) (fun _ => gA G 88) (Ax G) U H ∧
  va_Z "java/lang/String" "COMPACT_STRINGS" "Z" (.int 1) (Ax G) U H
theorem Ex.same {G : Gx} {u U : State} {H : Heap} (hv : U.vm = u.vm) (h : Ex G u H) : Ex G U H := by
  have hal : u.vm.Alike U.vm := by rw [hv]; exact Vm.Alike.refl _
  obtain ⟨h1, h2, h3, h4, h5⟩ := h
  exact ⟨h1.moved hal, h2.moved hal, h3.same hv, h4.moved hal, h5.moved hal⟩
theorem Ex.go {G : Gx} {s U : State} {H H1 : Heap} (hW : s.WarmedH U.vm) (hq : ∀ a : Nat, a < H.size → ¬ Ax G a → H1[a]? = H[a]?) (h : Ex G s H) : Ex G U H1 := by
  obtain ⟨h1, h2, h3, h4, h5⟩ := h
  exact ⟨(h1.moved hW.alike).kept hq, (h2.moved hW.alike).kept hq, h3.warm hW, (h4.moved hW.alike).kept hq, (h5.moved hW.alike).kept hq⟩
def KK (G : Gx) (U : State) : Prop := Inj G ∧ va_K G.1 vwCl (tysG G) U ∧ ∀ w ∈ ntbl, va_Nw w U
theorem KK.same {G : Gx} {u U : State} (hv : U.vm = u.vm) (h : KK G u) : KK G U := by
  have hal : u.vm.Alike U.vm := by rw [hv]; exact Vm.Alike.refl _
  refine ⟨h.1, h.2.1.moved hal, fun w hw => va_Nw.same ?_ hv.symm (h.2.2 w hw)⟩
  have hn := (List.mem_filter.mp hw).2
  cases w <;> first | rfl | (simp [isNest] at hn)
theorem KK.go {G : Gx} {s U : State} (hW : s.WarmedH U.vm) (h : KK G s) : KK G U := by
  refine ⟨h.1, h.2.1.moved hW.alike, fun w hw => ?_⟩
  have hn := (List.mem_filter.mp hw).2
  have h2 := h.2.2 w hw
  cases w <;> first | exact va_Nw.warmM hW h2 | (simp [isNest] at hn)
/-! CONTRACTS -/
abbrev rmx (fr lo : Nat) : Room := { frames := fr, cells := 0, slots := 0, locals := lo }
def QcG (G : Gx) (P : Option Value → Mem → Prop) : Array Value → State → Outcome → State → Prop := fun _ st oc t => (∃ (v : Option Value) (M' : Mem), oc = .returned v ∧ P v M' ∧ va_P G.1 vwCl (Wd G M') t.heap) ∧ va_F (Ax G) st t
def PcG (G : Gx) (As : List Value) (M : Mem) : Array Value → State → Prop := va_Pc As (fun U => va_P G.1 vwCl (Wd G M) U.heap ∧ KK G U ∧ Ex G U U.heap)
/-- the contract of a method: with these arguments, in this memory, it returns, P holds of answer and memory; fr frames, lo words of locals below it -/
def Con (l : Launch) (G : Gx) (y : MethodName) (cc : ByteArray) (nL : Nat) (ret : Option FieldType) (fr lo : Nat) (As : List Value) (M : Mem) (P : Option Value → Mem → Prop) : Prop :=
  Met l y (.code y cc nL ret :: gtbl) (rmx fr lo) (PcG G As M) (QcG G P) 0 0 (Ax G)
theorem PcG_blind (G : Gx) (As : List Value) (M : Mem) : FrameBlind (PcG G As M) := by
  intro a U g mk h
  obtain ⟨h0, h1, h2, h3⟩ := h
  exact ⟨h0, h1, KK.same (u := U) (U := U.calling g mk a) rfl h2, Ex.same (u := U) (U := U.calling g mk a) rfl h3⟩
/-! THE JUDGEMENT -/
abbrev Kx : Type := Program × Launch × Env × State × MethodId × Array Value × List Frame × Method × Code × Gx × Nat × Nat
abbrev Kx.p (κ : Kx) : Program := κ.1
abbrev Kx.l (κ : Kx) : Launch := κ.2.1
abbrev Kx.e (κ : Kx) : Env := κ.2.2.1
abbrev Kx.s (κ : Kx) : State := κ.2.2.2.1
abbrev Kx.m (κ : Kx) : MethodId := κ.2.2.2.2.1
abbrev Kx.a (κ : Kx) : Array Value := κ.2.2.2.2.2.1
abbrev Kx.b (κ : Kx) : List Frame := κ.2.2.2.2.2.2.1
abbrev Kx.h (κ : Kx) : Method := κ.2.2.2.2.2.2.2.1
abbrev Kx.c (κ : Kx) : Code := κ.2.2.2.2.2.2.2.2.1
abbrev Kx.G (κ : Kx) : Gx := κ.2.2.2.2.2.2.2.2.2.1
abbrev Kx.k (κ : Kx) : Nat := κ.2.2.2.2.2.2.2.2.2.2.1
abbrev Kx.n (κ : Kx) : Nat := κ.2.2.2.2.2.2.2.2.2.2.2
def lfl : Nat → List (Option Value) → List (Nat × Value)
  | _, [] => []
  | i, some v :: t => (i, v) :: lfl (i + 1) t
  | i, none :: t => lfl (i + 1) t
theorem lfl_mem {f : List (Option Value)} : ∀ {i j : Nat} {v : Value}, (j, v) ∈ lfl i f ↔ i ≤ j ∧ f[j - i]? = some (some v) := by
  induction f with
  | nil => intro i j v; simp [lfl]
  | cons x t ih =>
    intro i j v
    have key : (j, v) ∈ lfl (i + 1) t ↔ i + 1 ≤ j ∧ (x :: t)[j - i]? = some (some v) := by
      rw [ih]
      constructor
      · rintro ⟨h1, h2⟩
        refine ⟨h1, ?_⟩
        rw [show j - i = (j - (i + 1)) + 1 by omega, List.getElem?_cons_succ]
        exact h2
      · rintro ⟨h1, h2⟩
        refine ⟨h1, ?_⟩
        rw [show j - i = (j - (i + 1)) + 1 by omega, List.getElem?_cons_succ] at h2
        exact h2
    have zero : ∀ h : j = i, (x :: t)[j - i]? = some x := by
      intro h
      subst h
      rw [Nat.sub_self, List.getElem?_cons_zero]
    cases x with
    | none =>
      show (j, v) ∈ lfl (i + 1) t ↔ _
      rw [key]
      constructor
      · rintro ⟨h1, h2⟩; exact ⟨by omega, h2⟩
      · rintro ⟨h1, h2⟩
        refine ⟨?_, h2⟩
        rcases Nat.lt_or_ge i j with h | h
        · exact h
        · rw [zero (by omega)] at h2
          cases h2
    | some w =>
      show (j, v) ∈ (i, w) :: lfl (i + 1) t ↔ _
      rw [List.mem_cons, key]
      constructor
      · rintro (h | ⟨h1, h2⟩)
        · cases h
          exact ⟨Nat.le_refl _, zero rfl⟩
        · exact ⟨by omega, h2⟩
      · rintro ⟨h1, h2⟩
        rcases Nat.lt_or_ge i j with h | h
        · exact Or.inr ⟨h, h2⟩
        · have hj : j = i := by omega
          rw [zero hj] at h2
          cases h2
          rw [hj]
          exact Or.inl rfl
theorem lfl_at {ls : Array Slot} {nL : Nat} {f : List (Option Value)} (h : lv_has ls nL (lfl 0 f)) {i : Nat} {v : Value} (hi : f[i]? = some (some v)) : ls[i]? = some (.val v) := h.2.2 (i, v) (lfl_mem.mpr ⟨Nat.zero_le _, hi⟩)
/-- no value of two words stands just ahead of place i -/
def okS (f : List (Option Value)) (i : Nat) : Bool := match i with
  | 0 => true
  | j + 1 => match f[j]? with
    | some (some v) => v.category != 2
    | _ => true
theorem lfl_set1 {ls : Array Slot} {nL : Nat} {f : List (Option Value)} {i : Nat} {v : Value} (ho : okS f i = true) (h : lv_has ls nL ((i, v) :: (lfl 0 f).filter (fun q => !(q.1 == i) && !(q.1 + 1 == i && q.2.category == 2)))) : lv_has ls nL (lfl 0 (f.set i (some v))) := by
  refine ⟨h.1, h.2.1, fun q hq => ?_⟩
  obtain ⟨j, u⟩ := q
  have hr := (lfl_mem.mp hq).2
  rw [Nat.sub_zero] at hr
  by_cases e : i = j
  · subst e
    rw [List.getElem?_set, if_pos rfl] at hr
    by_cases hlt : i < f.length
    · rw [if_pos hlt] at hr
      have hu := Option.some.inj (Option.some.inj hr)
      subst hu
      exact h.2.2 _ List.mem_cons_self
    · rw [if_neg hlt] at hr
      exact absurd hr (by simp)
  · rw [List.getElem?_set_ne e] at hr
    refine h.2.2 _ (List.mem_cons_of_mem _ (List.mem_filter.mpr ⟨lfl_mem.mpr ⟨Nat.zero_le _, hr⟩, ?_⟩))
    have h1 : (j == i) = false := by simp; omega
    have h2 : (j + 1 == i && u.category == 2) = false := by
      by_cases e2 : j + 1 = i
      · subst e2
        simp only [okS, hr, bne_iff_ne, ne_eq] at ho
        simp [ho]
      · simp [e2]
    simp [h1, h2]
theorem lfl_set2 {ls : Array Slot} {nL : Nat} {f : List (Option Value)} {i : Nat} {v : Value} (ho : okS f i = true) (h : lv_has ls nL ((i, v) :: (lfl 0 f).filter (fun q => !(q.1 == i) && (!(q.1 == i + 1) && !(q.1 + 1 == i && q.2.category == 2))))) : lv_has ls nL (lfl 0 ((f.set i (some v)).set (i + 1) none)) := by
  refine ⟨h.1, h.2.1, fun q hq => ?_⟩
  obtain ⟨j, u⟩ := q
  have hr := (lfl_mem.mp hq).2
  rw [Nat.sub_zero] at hr
  by_cases e1 : i + 1 = j
  · subst e1
    rw [List.getElem?_set, if_pos rfl] at hr
    exact absurd hr (by split <;> simp)
  rw [List.getElem?_set_ne e1] at hr
  by_cases e : i = j
  · subst e
    rw [List.getElem?_set, if_pos rfl] at hr
    by_cases hlt : i < f.length
    · rw [if_pos hlt] at hr
      have hu := Option.some.inj (Option.some.inj hr)
      subst hu
      exact h.2.2 _ List.mem_cons_self
    · rw [if_neg hlt] at hr
      exact absurd hr (by simp)
  · rw [List.getElem?_set_ne e] at hr
    refine h.2.2 _ (List.mem_cons_of_mem _ (List.mem_filter.mpr ⟨lfl_mem.mpr ⟨Nat.zero_le _, hr⟩, ?_⟩))
    have h1 : (j == i) = false := by simp; omega
    have h3 : (j == i + 1) = false := by simp; omega
    have h2 : (j + 1 == i && u.category == 2) = false := by
      by_cases e2 : j + 1 = i
      · subst e2
        simp only [okS, hr, bne_iff_ne, ne_eq] at ho
        simp [ho]
      · simp [e2]
    simp [h1, h2, h3]
def Cx (κ : Kx) (cc : ByteArray) (own : String) (nL : Nat) (ret : Option FieldType) : Prop :=
  κ.p.tables.exec = Jvm.exec ∧ κ.c.code = cc ∧ κ.c.maxLocals = nL ∧ κ.s.vm.findClass own = some κ.m.cls ∧ (∀ w ∈ gtbl, w.before κ.a κ.s = true) ∧ KK κ.G κ.s ∧ Ex κ.G κ.s κ.s.heap ∧ κ.h.locks = false ∧ κ.h.sig.returnType = ret
/-- the machine, at pc with locals f, stack st and memory M, comes to a state with Q -/
def V (κ : Kx) (cc : ByteArray) (own : String) (nL : Nat) (ret : Option FieldType) (R : Room) (Q : State → Prop) (M : Mem) (pc : Nat) (f : List (Option Value)) (st : List Value) : Prop :=
  Cx κ cc own nL ret → ∀ (H : Heap) (locs : List Loc) (ls : Array Slot), va_P κ.G.1 vwCl (Wd κ.G M) H → va_S (Ax κ.G) κ.s.heap H locs → lv_has ls nL (lfl 0 f) → W κ.p κ.l κ.e R κ.s κ.m κ.a κ.b κ.h κ.c H locs κ.k κ.n Q (F0 κ.m pc ls st)
/-- a method's own end -/
abbrev QM (κ : Kx) (P : Option Value → Mem → Prop) : State → Prop := MQ κ.b (QcG κ.G P) κ.a κ.s κ.k κ.n (Ax κ.G)
theorem Con.ofV {l : Launch} {G : Gx} {y : MethodName} {cc : ByteArray} {nL : Nat} {ret : Option FieldType} {fr lo : Nat} {As : List Value} {M : Mem} {P : Option Value → Mem → Prop} (f : List (Option Value)) (own : String) (hy : plainName y.cls = true) (ho : y.cls = own) (hlen : (lg_sl As).length ≤ nL) (hf : lfl 0 f = lv_args 0 As)
    (h : ∀ κ : Kx, κ.l = l → κ.G = G → κ.k = 0 → κ.n = 0 → V κ cc own nL ret (rmx fr lo) (QM κ P) M 0 f []) : Con l G y cc nL ret fr lo As M P := by
  refine Met.ofW (cc := cc) (maxL := nL) (ret := ret) hy rfl ?_
  intro p e s m args below meth c s₁ B hml hv
  obtain ⟨rfl, hP, hK, hE⟩ := hv
  have hts := atoms_spec (ws := .code y cc nL ret :: gtbl) B.pre
  have hown : s.vm.findClass y.cls = some m.cls := findClass_of_methodNamed B.named
  rw [lg_entry_eq]
  refine h (p, l, e, s, m, As.toArray, below, meth, c, G, 0, 0) rfl rfl rfl rfl ⟨B.exec, B.bytes, hml, by rw [← ho]; exact hown, fun w hw => hts w (List.mem_cons_of_mem _ hw), hK, hE, B.notSynchronized, B.returns⟩ s.heap [] _ hP va_S.rf ?_
  rw [hf]
  exact lv_entry As hlen
section ROWS
variable {κ : Kx} {cc : ByteArray} {own : String} {nL : Nat} {ret : Option FieldType} {R : Room} {Q : State → Prop} {M : Mem} {pc : Nat} {f : List (Option Value)} {st : List Value}
theorem V.eq {pc' : Nat} {f' : List (Option Value)} {st' : List Value} {M' : Mem} (hM : M = M') (hp : pc = pc') (hf : f = f') (hs : st = st') (k : V κ cc own nL ret R Q M' pc' f' st') : V κ cc own nL ret R Q M pc f st := by subst hM hp hf hs; exact k
theorem r_iload {i : Nat} {x : Int32} (hd : decode cc pc = .ok (.iload i, 2)) (hi : f[i]? = some (some (.int x))) (k : V κ cc own nL ret R Q M (pc + 2) f (.int x :: st)) : V κ cc own nL ret R Q M pc f st := fun cx H locs ls hP hS hl => lv_iload cx.1 cx.2.1 hd (lfl_at hl hi) (k cx H locs ls hP hS hl)
theorem r_iload_n {i : Fin 4} {x : Int32} (hd : decode cc pc = .ok (.iload_n i, 1)) (hi : f[(i : Nat)]? = some (some (.int x))) (k : V κ cc own nL ret R Q M (pc + 1) f (.int x :: st)) : V κ cc own nL ret R Q M pc f st := fun cx H locs ls hP hS hl => lv_iload_n cx.1 cx.2.1 hd rfl (lfl_at hl hi) (k cx H locs ls hP hS hl)
theorem r_lload {i : Nat} {x : Int64} (hd : decode cc pc = .ok (.lload i, 2)) (hi : f[i]? = some (some (.long x))) (k : V κ cc own nL ret R Q M (pc + 2) f (.long x :: st)) : V κ cc own nL ret R Q M pc f st := fun cx H locs ls hP hS hl => lv_lload cx.1 cx.2.1 hd (lfl_at hl hi) (k cx H locs ls hP hS hl)
theorem r_lload_n {i : Fin 4} {x : Int64} (hd : decode cc pc = .ok (.lload_n i, 1)) (hi : f[(i : Nat)]? = some (some (.long x))) (k : V κ cc own nL ret R Q M (pc + 1) f (.long x :: st)) : V κ cc own nL ret R Q M pc f st := fun cx H locs ls hP hS hl => lv_lload_n cx.1 cx.2.1 hd rfl (lfl_at hl hi) (k cx H locs ls hP hS hl)
theorem r_aload {i : Nat} {x : Nat} (hd : decode cc pc = .ok (.aload i, 2)) (hi : f[i]? = some (some (.ref x))) (k : V κ cc own nL ret R Q M (pc + 2) f (.ref x :: st)) : V κ cc own nL ret R Q M pc f st := fun cx H locs ls hP hS hl => lv_aload cx.1 cx.2.1 hd (lfl_at hl hi) (k cx H locs ls hP hS hl)
theorem r_aload_n {i : Fin 4} {x : Nat} (hd : decode cc pc = .ok (.aload_n i, 1)) (hi : f[(i : Nat)]? = some (some (.ref x))) (k : V κ cc own nL ret R Q M (pc + 1) f (.ref x :: st)) : V κ cc own nL ret R Q M pc f st := fun cx H locs ls hP hS hl => lv_aload_n cx.1 cx.2.1 hd rfl (lfl_at hl hi) (k cx H locs ls hP hS hl)
theorem r_istore {i : Nat} {x : Int32} (hd : decode cc pc = .ok (.istore i, 2)) (hn : i < nL) (ho : okS f i = true) (k : V κ cc own nL ret R Q M (pc + 2) (f.set i (some (.int x))) st) : V κ cc own nL ret R Q M pc f (.int x :: st) := fun cx H locs ls hP hS hl => lv_istore cx.1 cx.2.1 hd hl hn rfl (fun ls hl => k cx H locs ls hP hS (lfl_set1 ho hl))
theorem r_istore_n {i : Fin 4} {x : Int32} (hd : decode cc pc = .ok (.istore_n i, 1)) (hn : (i : Nat) < nL) (ho : okS f (i : Nat) = true) (k : V κ cc own nL ret R Q M (pc + 1) (f.set (i : Nat) (some (.int x))) st) : V κ cc own nL ret R Q M pc f (.int x :: st) := fun cx H locs ls hP hS hl => lv_istore_n cx.1 cx.2.1 hd rfl hl hn rfl (fun ls hl => k cx H locs ls hP hS (lfl_set1 ho hl))
theorem r_astore {i : Nat} {x : Nat} (hd : decode cc pc = .ok (.astore i, 2)) (hn : i < nL) (ho : okS f i = true) (k : V κ cc own nL ret R Q M (pc + 2) (f.set i (some (.ref x))) st) : V κ cc own nL ret R Q M pc f (.ref x :: st) := fun cx H locs ls hP hS hl => lv_astore cx.1 cx.2.1 hd hl hn rfl (fun ls hl => k cx H locs ls hP hS (lfl_set1 ho hl))
theorem r_astore_n {i : Fin 4} {x : Nat} (hd : decode cc pc = .ok (.astore_n i, 1)) (hn : (i : Nat) < nL) (ho : okS f (i : Nat) = true) (k : V κ cc own nL ret R Q M (pc + 1) (f.set (i : Nat) (some (.ref x))) st) : V κ cc own nL ret R Q M pc f (.ref x :: st) := fun cx H locs ls hP hS hl => lv_astore_n cx.1 cx.2.1 hd rfl hl hn rfl (fun ls hl => k cx H locs ls hP hS (lfl_set1 ho hl))
theorem r_lstore {i : Nat} {x : Int64} (hd : decode cc pc = .ok (.lstore i, 2)) (hn : i + 1 < nL) (ho : okS f i = true) (k : V κ cc own nL ret R Q M (pc + 2) ((f.set i (some (.long x))).set (i + 1) none) st) : V κ cc own nL ret R Q M pc f (.long x :: st) := fun cx H locs ls hP hS hl => lv_lstore cx.1 cx.2.1 hd hl hn rfl (fun ls hl => k cx H locs ls hP hS (lfl_set2 ho hl))
theorem r_lstore_n {i : Fin 4} {x : Int64} (hd : decode cc pc = .ok (.lstore_n i, 1)) (hn : (i : Nat) + 1 < nL) (ho : okS f (i : Nat) = true) (k : V κ cc own nL ret R Q M (pc + 1) ((f.set (i : Nat) (some (.long x))).set ((i : Nat) + 1) none) st) : V κ cc own nL ret R Q M pc f (.long x :: st) := fun cx H locs ls hP hS hl => lv_lstore_n cx.1 cx.2.1 hd rfl hl hn rfl (fun ls hl => k cx H locs ls hP hS (lfl_set2 ho hl))
theorem r_iinc {i : Nat} {n : Int} {x v : Int32} (hd : decode cc pc = .ok (.iinc i n, 3)) (hi : f[i]? = some (some (.int x))) (hv : x + Int32.ofInt n = v) (hn : i < nL) (ho : okS f i = true) (k : V κ cc own nL ret R Q M (pc + 3) (f.set i (some (.int v))) st) : V κ cc own nL ret R Q M pc f st := by
  intro cx H locs ls hP hS hl
  obtain ⟨q, hq⟩ := List.getElem?_of_mem (lfl_mem.mpr ⟨Nat.zero_le i, hi⟩ : (i, Value.int x) ∈ lfl 0 f)
  exact lv_iinc cx.1 cx.2.1 hd hl hq hv hn rfl (fun ls hl => k cx H locs ls hP hS (lfl_set1 ho hl))
theorem r_iconst {n : Int} {v : Int32} (hd : decode cc pc = .ok (.iconst n, 1)) (hv : Int32.ofInt n = v) (k : V κ cc own nL ret R Q M (pc + 1) f (.int v :: st)) : V κ cc own nL ret R Q M pc f st := fun cx H locs ls hP hS hl => lv_iconst cx.1 cx.2.1 hd hv (k cx H locs ls hP hS hl)
theorem r_bipush {n : Int} {v : Int32} (hd : decode cc pc = .ok (.bipush n, 2)) (hv : (Int8.ofInt n).toInt32 = v) (k : V κ cc own nL ret R Q M (pc + 2) f (.int v :: st)) : V κ cc own nL ret R Q M pc f st := fun cx H locs ls hP hS hl => lv_bipush cx.1 cx.2.1 hd hv (k cx H locs ls hP hS hl)
theorem r_sipush {n : Int} {v : Int32} (hd : decode cc pc = .ok (.sipush n, 3)) (hv : (Int16.ofInt n).toInt32 = v) (k : V κ cc own nL ret R Q M (pc + 3) f (.int v :: st)) : V κ cc own nL ret R Q M pc f st := fun cx H locs ls hP hS hl => lv_sipush cx.1 cx.2.1 hd hv (k cx H locs ls hP hS hl)
theorem r_lconst {n : Fin 2} {v : Int64} (hd : decode cc pc = .ok (.lconst n, 1)) (hv : Int64.ofNat (n : Nat) = v) (k : V κ cc own nL ret R Q M (pc + 1) f (.long v :: st)) : V κ cc own nL ret R Q M pc f st := fun cx H locs ls hP hS hl => lv_lconst cx.1 cx.2.1 hd hv (k cx H locs ls hP hS hl)
theorem r_ldc {i : Nat} {v : Int32} (hd : decode cc pc = .ok (.ldc i, 2)) (hw : Cond.constant own i v ∈ gtbl) (k : V κ cc own nL ret R Q M (pc + 2) f (.int v :: st)) : V κ cc own nL ret R Q M pc f st := fun cx H locs ls hP hS hl => lv_ldc cx.1 cx.2.1 cx.2.2.2.1 (cx.2.2.2.2.1 _ hw) hd (k cx H locs ls hP hS hl)
theorem r_ldcw {i : Nat} {v : Int32} (hd : decode cc pc = .ok (.ldc_w i, 3)) (hw : Cond.constant own i v ∈ gtbl) (k : V κ cc own nL ret R Q M (pc + 3) f (.int v :: st)) : V κ cc own nL ret R Q M pc f st := fun cx H locs ls hP hS hl => lv_ldcw cx.1 cx.2.1 cx.2.2.2.1 (cx.2.2.2.2.1 _ hw) hd (k cx H locs ls hP hS hl)
theorem r_ldc2 {i : Nat} {v : Int64} (hd : decode cc pc = .ok (.ldc2_w i, 3)) (hw : Cond.constantLong own i v ∈ gtbl) (k : V κ cc own nL ret R Q M (pc + 3) f (.long v :: st)) : V κ cc own nL ret R Q M pc f st := fun cx H locs ls hP hS hl => lv_ldc2 cx.1 cx.2.1 cx.2.2.2.1 (cx.2.2.2.2.1 _ hw) hd (k cx H locs ls hP hS hl)
theorem r_iadd {x y : Int32} (hd : decode cc pc = .ok (.iadd, 1)) (k : V κ cc own nL ret R Q M (pc + 1) f (.int (x + y) :: st)) : V κ cc own nL ret R Q M pc f (.int y :: .int x :: st) := fun cx H locs ls hP hS hl => lv_iadd cx.1 cx.2.1 hd (k cx H locs ls hP hS hl)
theorem r_isub {x y : Int32} (hd : decode cc pc = .ok (.isub, 1)) (k : V κ cc own nL ret R Q M (pc + 1) f (.int (x - y) :: st)) : V κ cc own nL ret R Q M pc f (.int y :: .int x :: st) := fun cx H locs ls hP hS hl => lv_isub cx.1 cx.2.1 hd (k cx H locs ls hP hS hl)
theorem r_imul {x y : Int32} (hd : decode cc pc = .ok (.imul, 1)) (k : V κ cc own nL ret R Q M (pc + 1) f (.int (x * y) :: st)) : V κ cc own nL ret R Q M pc f (.int y :: .int x :: st) := fun cx H locs ls hP hS hl => lv_imul cx.1 cx.2.1 hd (k cx H locs ls hP hS hl)
theorem r_iand {x y : Int32} (hd : decode cc pc = .ok (.iand, 1)) (k : V κ cc own nL ret R Q M (pc + 1) f (.int (x &&& y) :: st)) : V κ cc own nL ret R Q M pc f (.int y :: .int x :: st) := fun cx H locs ls hP hS hl => lv_iand cx.1 cx.2.1 hd (k cx H locs ls hP hS hl)
theorem r_ior {x y : Int32} (hd : decode cc pc = .ok (.ior, 1)) (k : V κ cc own nL ret R Q M (pc + 1) f (.int (x ||| y) :: st)) : V κ cc own nL ret R Q M pc f (.int y :: .int x :: st) := fun cx H locs ls hP hS hl => lv_ior cx.1 cx.2.1 hd (k cx H locs ls hP hS hl)
theorem r_ixor {x y : Int32} (hd : decode cc pc = .ok (.ixor, 1)) (k : V κ cc own nL ret R Q M (pc + 1) f (.int (x ^^^ y) :: st)) : V κ cc own nL ret R Q M pc f (.int y :: .int x :: st) := fun cx H locs ls hP hS hl => lv_ixor cx.1 cx.2.1 hd (k cx H locs ls hP hS hl)
theorem r_ishl {x y : Int32} (hd : decode cc pc = .ok (.ishl, 1)) (k : V κ cc own nL ret R Q M (pc + 1) f (.int (x <<< (y &&& 31)) :: st)) : V κ cc own nL ret R Q M pc f (.int y :: .int x :: st) := fun cx H locs ls hP hS hl => lv_ishl cx.1 cx.2.1 hd (k cx H locs ls hP hS hl)
theorem r_ishr {x y : Int32} (hd : decode cc pc = .ok (.ishr, 1)) (k : V κ cc own nL ret R Q M (pc + 1) f (.int (x >>> (y &&& 31)) :: st)) : V κ cc own nL ret R Q M pc f (.int y :: .int x :: st) := fun cx H locs ls hP hS hl => lv_ishr cx.1 cx.2.1 hd (k cx H locs ls hP hS hl)
theorem r_idiv {x y : Int32} (hd : decode cc pc = .ok (.idiv, 1)) (hne : ¬ y = 0) (k : V κ cc own nL ret R Q M (pc + 1) f (.int (x / y) :: st)) : V κ cc own nL ret R Q M pc f (.int y :: .int x :: st) := fun cx H locs ls hP hS hl => lv_idiv cx.1 cx.2.1 hd hne (k cx H locs ls hP hS hl)
theorem r_irem {x y : Int32} (hd : decode cc pc = .ok (.irem, 1)) (hne : ¬ y = 0) (k : V κ cc own nL ret R Q M (pc + 1) f (.int (x - x / y * y) :: st)) : V κ cc own nL ret R Q M pc f (.int y :: .int x :: st) := fun cx H locs ls hP hS hl => lv_irem cx.1 cx.2.1 hd hne (k cx H locs ls hP hS hl)
theorem r_ineg {x : Int32} (hd : decode cc pc = .ok (.ineg, 1)) (k : V κ cc own nL ret R Q M (pc + 1) f (.int (-x) :: st)) : V κ cc own nL ret R Q M pc f (.int x :: st) := fun cx H locs ls hP hS hl => lv_ineg cx.1 cx.2.1 hd (k cx H locs ls hP hS hl)
theorem r_ladd {x y : Int64} (hd : decode cc pc = .ok (.ladd, 1)) (k : V κ cc own nL ret R Q M (pc + 1) f (.long (x + y) :: st)) : V κ cc own nL ret R Q M pc f (.long y :: .long x :: st) := fun cx H locs ls hP hS hl => lv_ladd cx.1 cx.2.1 hd (k cx H locs ls hP hS hl)
theorem r_lsub {x y : Int64} (hd : decode cc pc = .ok (.lsub, 1)) (k : V κ cc own nL ret R Q M (pc + 1) f (.long (x - y) :: st)) : V κ cc own nL ret R Q M pc f (.long y :: .long x :: st) := fun cx H locs ls hP hS hl => lv_lsub cx.1 cx.2.1 hd (k cx H locs ls hP hS hl)
theorem r_lmul {x y : Int64} (hd : decode cc pc = .ok (.lmul, 1)) (k : V κ cc own nL ret R Q M (pc + 1) f (.long (x * y) :: st)) : V κ cc own nL ret R Q M pc f (.long y :: .long x :: st) := fun cx H locs ls hP hS hl => lv_lmul cx.1 cx.2.1 hd (k cx H locs ls hP hS hl)
theorem r_ldiv {x y : Int64} (hd : decode cc pc = .ok (.ldiv, 1)) (hne : ¬ y = 0) (k : V κ cc own nL ret R Q M (pc + 1) f (.long (x / y) :: st)) : V κ cc own nL ret R Q M pc f (.long y :: .long x :: st) := fun cx H locs ls hP hS hl => lv_ldiv cx.1 cx.2.1 hd hne (k cx H locs ls hP hS hl)
theorem r_lrem {x y : Int64} (hd : decode cc pc = .ok (.lrem, 1)) (hne : ¬ y = 0) (k : V κ cc own nL ret R Q M (pc + 1) f (.long (x - x / y * y) :: st)) : V κ cc own nL ret R Q M pc f (.long y :: .long x :: st) := fun cx H locs ls hP hS hl => lv_lrem cx.1 cx.2.1 hd hne (k cx H locs ls hP hS hl)
theorem r_lcmp {x y : Int64} (hd : decode cc pc = .ok (.lcmp, 1)) (k : V κ cc own nL ret R Q M (pc + 1) f (.int (lg_cmp x y) :: st)) : V κ cc own nL ret R Q M pc f (.long y :: .long x :: st) := fun cx H locs ls hP hS hl => W.lcmp cx.1 cx.2.1 hd (k cx H locs ls hP hS hl)
theorem r_i2l {x : Int32} (hd : decode cc pc = .ok (.i2l, 1)) (k : V κ cc own nL ret R Q M (pc + 1) f (.long x.toInt64 :: st)) : V κ cc own nL ret R Q M pc f (.int x :: st) := fun cx H locs ls hP hS hl => lv_i2l cx.1 cx.2.1 hd rfl (k cx H locs ls hP hS hl)
theorem r_l2i {x : Int64} (hd : decode cc pc = .ok (.l2i, 1)) (k : V κ cc own nL ret R Q M (pc + 1) f (.int x.toInt32 :: st)) : V κ cc own nL ret R Q M pc f (.long x :: st) := fun cx H locs ls hP hS hl => lv_l2i cx.1 cx.2.1 hd rfl (k cx H locs ls hP hS hl)
theorem r_i2b {x : Int32} (hd : decode cc pc = .ok (.i2b, 1)) (k : V κ cc own nL ret R Q M (pc + 1) f (.int x.toInt8.toInt32 :: st)) : V κ cc own nL ret R Q M pc f (.int x :: st) := fun cx H locs ls hP hS hl => lv_i2b cx.1 cx.2.1 hd rfl (k cx H locs ls hP hS hl)
theorem r_i2s {x : Int32} (hd : decode cc pc = .ok (.i2s, 1)) (k : V κ cc own nL ret R Q M (pc + 1) f (.int x.toInt16.toInt32 :: st)) : V κ cc own nL ret R Q M pc f (.int x :: st) := fun cx H locs ls hP hS hl => lv_i2s cx.1 cx.2.1 hd rfl (k cx H locs ls hP hS hl)
theorem r_i2c {x : Int32} (hd : decode cc pc = .ok (.i2c, 1)) (k : V κ cc own nL ret R Q M (pc + 1) f (.int (x.toUInt32 % 65536).toInt32 :: st)) : V κ cc own nL ret R Q M pc f (.int x :: st) := fun cx H locs ls hP hS hl => lv_i2c cx.1 cx.2.1 hd rfl (k cx H locs ls hP hS hl)
theorem r_dup {v : Value} (hd : decode cc pc = .ok (.dup, 1)) (hv : v.category = 1) (k : V κ cc own nL ret R Q M (pc + 1) f (v :: v :: st)) : V κ cc own nL ret R Q M pc f (v :: st) := fun cx H locs ls hP hS hl => lv_dup cx.1 cx.2.1 hd hv (k cx H locs ls hP hS hl)
theorem r_pop {v : Value} (hd : decode cc pc = .ok (.pop, 1)) (hv : v.category = 1) (k : V κ cc own nL ret R Q M (pc + 1) f st) : V κ cc own nL ret R Q M pc f (v :: st) := fun cx H locs ls hP hS hl => lv_pop cx.1 cx.2.1 hd hv (k cx H locs ls hP hS hl)
theorem r_dup2 {v u : Value} (hd : decode cc pc = .ok (.dup2, 1)) (hv : v.category = 1) (hu : u.category = 1) (k : V κ cc own nL ret R Q M (pc + 1) f (v :: u :: v :: u :: st)) : V κ cc own nL ret R Q M pc f (v :: u :: st) := fun cx H locs ls hP hS hl => lv_dup2_11 cx.1 cx.2.1 hd hv hu (k cx H locs ls hP hS hl)
theorem r_goto {off : Int} {tgt : Nat} (hd : decode cc pc = .ok (.goto off, 3)) (ht : (pc : Int) + off = (tgt : Int)) (k : V κ cc own nL ret R Q M tgt f st) : V κ cc own nL ret R Q M pc f st := fun cx H locs ls hP hS hl => lv_goto cx.1 cx.2.1 hd ht (k cx H locs ls hP hS hl)
theorem r_if_eq {x : Int32} {off : Int} {tgt : Nat} (hd : decode cc pc = .ok (.ifCond .eq off, 3)) (ht : (pc : Int) + off = (tgt : Int)) (kt : x = 0 → V κ cc own nL ret R Q M tgt f st) (kf : ¬ x = 0 → V κ cc own nL ret R Q M (pc + 3) f st) : V κ cc own nL ret R Q M pc f (.int x :: st) := fun cx H locs ls hP hS hl => lv_if_eq cx.1 cx.2.1 hd ht (fun h => kt h cx H locs ls hP hS hl) (fun h => kf h cx H locs ls hP hS hl)
theorem r_icmp_eq {x y : Int32} {off : Int} {tgt : Nat} (hd : decode cc pc = .ok (.if_icmp .eq off, 3)) (ht : (pc : Int) + off = (tgt : Int)) (kt : x = y → V κ cc own nL ret R Q M tgt f st) (kf : ¬ x = y → V κ cc own nL ret R Q M (pc + 3) f st) : V κ cc own nL ret R Q M pc f (.int y :: .int x :: st) := fun cx H locs ls hP hS hl => lv_icmp_eq cx.1 cx.2.1 hd ht (fun h => kt h cx H locs ls hP hS hl) (fun h => kf h cx H locs ls hP hS hl)
theorem r_if_ne {x : Int32} {off : Int} {tgt : Nat} (hd : decode cc pc = .ok (.ifCond .ne off, 3)) (ht : (pc : Int) + off = (tgt : Int)) (kt : ¬ x = 0 → V κ cc own nL ret R Q M tgt f st) (kf : x = 0 → V κ cc own nL ret R Q M (pc + 3) f st) : V κ cc own nL ret R Q M pc f (.int x :: st) := fun cx H locs ls hP hS hl => lv_if_ne cx.1 cx.2.1 hd ht (fun h => kt h cx H locs ls hP hS hl) (fun h => kf h cx H locs ls hP hS hl)
theorem r_icmp_ne {x y : Int32} {off : Int} {tgt : Nat} (hd : decode cc pc = .ok (.if_icmp .ne off, 3)) (ht : (pc : Int) + off = (tgt : Int)) (kt : ¬ x = y → V κ cc own nL ret R Q M tgt f st) (kf : x = y → V κ cc own nL ret R Q M (pc + 3) f st) : V κ cc own nL ret R Q M pc f (.int y :: .int x :: st) := fun cx H locs ls hP hS hl => lv_icmp_ne cx.1 cx.2.1 hd ht (fun h => kt h cx H locs ls hP hS hl) (fun h => kf h cx H locs ls hP hS hl)
theorem r_if_lt {x : Int32} {off : Int} {tgt : Nat} (hd : decode cc pc = .ok (.ifCond .lt off, 3)) (ht : (pc : Int) + off = (tgt : Int)) (kt : x < 0 → V κ cc own nL ret R Q M tgt f st) (kf : ¬ x < 0 → V κ cc own nL ret R Q M (pc + 3) f st) : V κ cc own nL ret R Q M pc f (.int x :: st) := fun cx H locs ls hP hS hl => lv_if_lt cx.1 cx.2.1 hd ht (fun h => kt h cx H locs ls hP hS hl) (fun h => kf h cx H locs ls hP hS hl)
theorem r_icmp_lt {x y : Int32} {off : Int} {tgt : Nat} (hd : decode cc pc = .ok (.if_icmp .lt off, 3)) (ht : (pc : Int) + off = (tgt : Int)) (kt : x < y → V κ cc own nL ret R Q M tgt f st) (kf : ¬ x < y → V κ cc own nL ret R Q M (pc + 3) f st) : V κ cc own nL ret R Q M pc f (.int y :: .int x :: st) := fun cx H locs ls hP hS hl => lv_icmp_lt cx.1 cx.2.1 hd ht (fun h => kt h cx H locs ls hP hS hl) (fun h => kf h cx H locs ls hP hS hl)
theorem r_if_ge {x : Int32} {off : Int} {tgt : Nat} (hd : decode cc pc = .ok (.ifCond .ge off, 3)) (ht : (pc : Int) + off = (tgt : Int)) (kt : 0 ≤ x → V κ cc own nL ret R Q M tgt f st) (kf : ¬ 0 ≤ x → V κ cc own nL ret R Q M (pc + 3) f st) : V κ cc own nL ret R Q M pc f (.int x :: st) := fun cx H locs ls hP hS hl => lv_if_ge cx.1 cx.2.1 hd ht (fun h => kt h cx H locs ls hP hS hl) (fun h => kf h cx H locs ls hP hS hl)
theorem r_icmp_ge {x y : Int32} {off : Int} {tgt : Nat} (hd : decode cc pc = .ok (.if_icmp .ge off, 3)) (ht : (pc : Int) + off = (tgt : Int)) (kt : y ≤ x → V κ cc own nL ret R Q M tgt f st) (kf : ¬ y ≤ x → V κ cc own nL ret R Q M (pc + 3) f st) : V κ cc own nL ret R Q M pc f (.int y :: .int x :: st) := fun cx H locs ls hP hS hl => lv_icmp_ge cx.1 cx.2.1 hd ht (fun h => kt h cx H locs ls hP hS hl) (fun h => kf h cx H locs ls hP hS hl)
theorem r_if_gt {x : Int32} {off : Int} {tgt : Nat} (hd : decode cc pc = .ok (.ifCond .gt off, 3)) (ht : (pc : Int) + off = (tgt : Int)) (kt : 0 < x → V κ cc own nL ret R Q M tgt f st) (kf : ¬ 0 < x → V κ cc own nL ret R Q M (pc + 3) f st) : V κ cc own nL ret R Q M pc f (.int x :: st) := fun cx H locs ls hP hS hl => lv_if_gt cx.1 cx.2.1 hd ht (fun h => kt h cx H locs ls hP hS hl) (fun h => kf h cx H locs ls hP hS hl)
theorem r_icmp_gt {x y : Int32} {off : Int} {tgt : Nat} (hd : decode cc pc = .ok (.if_icmp .gt off, 3)) (ht : (pc : Int) + off = (tgt : Int)) (kt : y < x → V κ cc own nL ret R Q M tgt f st) (kf : ¬ y < x → V κ cc own nL ret R Q M (pc + 3) f st) : V κ cc own nL ret R Q M pc f (.int y :: .int x :: st) := fun cx H locs ls hP hS hl => lv_icmp_gt cx.1 cx.2.1 hd ht (fun h => kt h cx H locs ls hP hS hl) (fun h => kf h cx H locs ls hP hS hl)
theorem r_if_le {x : Int32} {off : Int} {tgt : Nat} (hd : decode cc pc = .ok (.ifCond .le off, 3)) (ht : (pc : Int) + off = (tgt : Int)) (kt : x ≤ 0 → V κ cc own nL ret R Q M tgt f st) (kf : ¬ x ≤ 0 → V κ cc own nL ret R Q M (pc + 3) f st) : V κ cc own nL ret R Q M pc f (.int x :: st) := fun cx H locs ls hP hS hl => lv_if_le cx.1 cx.2.1 hd ht (fun h => kt h cx H locs ls hP hS hl) (fun h => kf h cx H locs ls hP hS hl)
theorem r_icmp_le {x y : Int32} {off : Int} {tgt : Nat} (hd : decode cc pc = .ok (.if_icmp .le off, 3)) (ht : (pc : Int) + off = (tgt : Int)) (kt : x ≤ y → V κ cc own nL ret R Q M tgt f st) (kf : ¬ x ≤ y → V κ cc own nL ret R Q M (pc + 3) f st) : V κ cc own nL ret R Q M pc f (.int y :: .int x :: st) := fun cx H locs ls hP hS hl => lv_icmp_le cx.1 cx.2.1 hd ht (fun h => kt h cx H locs ls hP hS hl) (fun h => kf h cx H locs ls hP hS hl)
theorem r_tableIn {dflt lo hi : Int} {offs : Array Int} {len : Nat} {x : Int32} {off : Int} {tgt : Nat} (hd : decode cc pc = .ok (.tableswitch dflt lo hi offs, len)) (h1 : ¬ x.toInt < lo) (h2 : ¬ hi < x.toInt) (ho : offs[(x.toInt - lo).toNat]? = some off) (ht : (pc : Int) + off = (tgt : Int)) (k : V κ cc own nL ret R Q M tgt f st) : V κ cc own nL ret R Q M pc f (.int x :: st) := fun cx H locs ls hP hS hl => lv_tableIn cx.1 cx.2.1 hd h1 h2 ho ht (k cx H locs ls hP hS hl)
theorem r_tableOut {dflt lo hi : Int} {offs : Array Int} {len : Nat} {x : Int32} {tgt : Nat} (hd : decode cc pc = .ok (.tableswitch dflt lo hi offs, len)) (h : x.toInt < lo ∨ hi < x.toInt) (ht : (pc : Int) + dflt = (tgt : Int)) (k : V κ cc own nL ret R Q M tgt f st) : V κ cc own nL ret R Q M pc f (.int x :: st) := fun cx H locs ls hP hS hl => lv_tableOut cx.1 cx.2.1 hd h ht (k cx H locs ls hP hS hl)
/-! fields -/
theorem r_get {C : String} {T : u_T} {N i ci o j : Nat} {v : Value} (hin : ∀ w ∈ u_ws C T N, w ∈ gtbl) (hc : vwCl[ci]? = some (C, T, N)) (hj : j < N) (hw : Cond.fieldLink own i (T j).1 (T j).2.1 (T j).2.2.1 ∈ gtbl) (ho : clsO o = some ci) (hv : (fsO κ.G ci o (M o))[j]? = some v) (hd : decode cc pc = .ok (.getfield i, 3)) (k : V κ cc own nL ret R Q M (pc + 3) f (v :: st)) : V κ cc own nL ret R Q M pc f (.ref (gA κ.G o) :: st) := fun cx H locs ls hP hS hl =>
  va_get (D := κ.G.1) (ci := ci) cx.1 cx.2.1 cx.2.2.2.2.1 hin cx.2.2.2.1 cx.2.2.2.2.2.1.2.1 hP o (by rw [Wd_at _ _ (clsO_lt ho), contE_cls _ _ ho]) hc j hj (cx.2.2.2.2.1 _ hw) (fun _ h => h) hv hd (k cx H locs ls hP hS hl)
theorem r_put {C : String} {T : u_T} {N i ci o j : Nat} {v : Int32} {ty : FieldType} (hin : ∀ w ∈ u_ws C T N, w ∈ gtbl) (ty0 : Nat → FieldType) (hty : ∀ k, k < N → parseFieldDescriptor (T k).2.2.1 = some (ty0 k)) (hnm : ∀ a, a < N → ∀ b, b < N → a ≠ b → (T a).2.1 ≠ (T b).2.1) (hc : vwCl[ci]? = some (C, T, N)) (hj : j < N) (hw : Cond.fieldLink own i (T j).1 (T j).2.1 (T j).2.2.1 ∈ gtbl) (hfin : (T j).2.2.2 = false) (hpd : parseFieldDescriptor (T j).2.2.1 = some ty) (hn : narrow ty (.int v) = .int v) (hfit : fits ty (.int v) = true) (hlen : ∀ (G : Gx) (m : Nat → Int32), j < (fsO G ci o m).length) (hset : ∀ (G : Gx) (m : Nat → Int32) (v : Int32), (fsO G ci o m).set j (.int v) = fsO G ci o (upd m j v)) (ho : clsO o = some ci) (hd : decode cc pc = .ok (.putfield i, 3)) (k : V κ cc own nL ret R Q (mset M o j v) (pc + 3) f st) : V κ cc own nL ret R Q M pc f (.int v :: .ref (gA κ.G o) :: st) := fun cx H locs ls hP hS hl =>
  va_put (D := κ.G.1) (ci := ci) (v := .int v) cx.1 cx.2.1 cx.2.2.2.2.1 hin ty0 hty hnm cx.2.2.2.1 cx.2.2.2.2.2.1.2.1 hP (Wd_D cx.2.2.2.2.2.1.1 M) hS o (by rw [Wd_at _ _ (clsO_lt ho), contE_cls _ _ ho]) hc j hj (cx.2.2.2.2.1 _ hw) (fun _ h => h) hfin hpd hn hfit (hlen _ _) hd (fun H1 locs1 hP1 _ hS1 => k cx H1 locs1 ls (by
    rw [hset, Wd_set _ _ (clsO_lt ho) (upd (M o) j v) (contE_cls _ _ ho)] at hP1
    exact hP1) hS1 hl)
/-! arrays -/
theorem r_ialdx {o : Nat} {i : Int32} (hd : decode cc pc = .ok (.iaload, 1)) (ho : isIA o = true) (hin : vp_in i (lenA o)) (k : V κ cc own nL ret R Q M (pc + 1) f (.int (M o i.toNatClampNeg) :: st)) : V κ cc own nL ret R Q M pc f (.int i :: .ref (gA κ.G o) :: st) := fun cx H locs ls hP hS hl =>
  va_iald cx.1 cx.2.1 cx.2.2.2.2.2.1.2.1 hP o 0 (by rw [Wd_at _ _ (isIA_lt ho), contE_IA _ _ ho]) rfl hin hd (k cx H locs ls hP hS hl)
theorem r_iald {o n : Nat} (hd : decode cc pc = .ok (.iaload, 1)) (ho : isIA o = true) (hn : n < lenA o) (k : V κ cc own nL ret R Q M (pc + 1) f (.int (M o n) :: st)) : V κ cc own nL ret R Q M pc f (.int (nI n) :: .ref (gA κ.G o) :: st) := by
  have h984 := lenA_le ho
  refine r_ialdx hd ho (vp_in_nI hn (by omega)) ?_
  rw [nI_clamp (by omega)]
  exact k
theorem r_iastx {o : Nat} {i x : Int32} (hd : decode cc pc = .ok (.iastore, 1)) (ho : isIA o = true) (hin : vp_in i (lenA o)) (k : V κ cc own nL ret R Q (mset M o i.toNatClampNeg x) (pc + 1) f st) : V κ cc own nL ret R Q M pc f (.int x :: .int i :: .ref (gA κ.G o) :: st) := fun cx H locs ls hP hS hl =>
  va_iast cx.1 cx.2.1 cx.2.2.2.2.2.1.2.1 hP (Wd_D cx.2.2.2.2.2.1.1 M) hS o 0 (by rw [Wd_at _ _ (isIA_lt ho), contE_IA _ _ ho]) rfl hin hd (fun H1 locs1 hP1 _ hS1 => k cx H1 locs1 ls (by
    rw [Wd_set _ _ (isIA_lt ho) _ (contE_IA _ _ ho)] at hP1
    exact hP1) hS1 hl)
theorem r_iast {o n : Nat} {x : Int32} (hd : decode cc pc = .ok (.iastore, 1)) (ho : isIA o = true) (hn : n < lenA o) (k : V κ cc own nL ret R Q (mset M o n x) (pc + 1) f st) : V κ cc own nL ret R Q M pc f (.int x :: .int (nI n) :: .ref (gA κ.G o) :: st) := by
  have h984 := lenA_le ho
  refine r_iastx hd ho (vp_in_nI hn (by omega)) ?_
  rw [nI_clamp (by omega)]
  exact k
theorem r_zald {n : Nat} (hd : decode cc pc = .ok (.baload, 1)) (hn : n < 2) (k : V κ cc own nL ret R Q M (pc + 1) f (.int (M 11 n) :: st)) : V κ cc own nL ret R Q M pc f (.int (nI n) :: .ref (gA κ.G 11) :: st) := by
  intro cx H locs ls hP hS hl
  refine va_zald cx.1 cx.2.1 cx.2.2.2.2.2.1.2.1 hP 11 1 (n := 2) (f := M 11) (by rw [Wd_at _ _ (by decide)]; rfl) rfl (vp_in_nI hn (by omega)) hd ?_
  rw [nI_clamp (by omega)]
  exact k cx H locs ls hP hS hl
theorem r_zast1 {n : Nat} (hd : decode cc pc = .ok (.bastore, 1)) (hn : n < 2) (k : V κ cc own nL ret R Q (mset M 11 n 1) (pc + 1) f st) : V κ cc own nL ret R Q M pc f (.int 1 :: .int (nI n) :: .ref (gA κ.G 11) :: st) := by
  intro cx H locs ls hP hS hl
  refine va_zast cx.1 cx.2.1 cx.2.2.2.2.2.1.2.1 hP (Wd_D cx.2.2.2.2.2.1.1 M) hS 11 1 (n := 2) (f := M 11) (by rw [Wd_at _ _ (by decide)]; rfl) rfl (vp_in_nI hn (by omega)) hd (fun H1 locs1 hP1 _ hS1 => k cx H1 locs1 ls ?_ hS1 hl)
  rw [nI_clamp (by omega), show vp_nar .boolean 1 = 1 from rfl, Wd_set κ.G M (k := 11) (by decide) (upd (M 11) n 1) (e := .inl (κ.G.2.2.1, 2, .inl (upd (M 11) n 1))) rfl] at hP1
  exact hP1
theorem r_aaR {n : Nat} (hd : decode cc pc = .ok (.aaload, 1)) (hn : n < 8) (k : V κ cc own nL ret R Q M (pc + 1) f (.ref (gA κ.G (45 + n)) :: st)) : V κ cc own nL ret R Q M pc f (.int (nI n) :: .ref (gA κ.G 15) :: st) := by
  intro cx H locs ls hP hS hl
  refine va_aldq cx.1 cx.2.1 cx.2.2.2.2.2.1.2.1 hP 15 2 (n := 8) (f := fun j => some (gA κ.G (45 + j))) (by rw [Wd_at _ _ (by decide)]; rfl) rfl (vp_in_nI hn (by omega)) hd ?_
  rw [nI_clamp (by omega)]
  exact k cx H locs ls hP hS hl
theorem va_aldA {p : Program} {l : Launch} {e : Env} {R : Room} {s : State} {m : MethodId} {args : Array Value} {below : List Frame} {meth : Method} {c : Code} {H : Heap} {locs : List Loc} {cells slots : Nat} {Q : State → Prop} {cc : ByteArray} {pc : Nat} {ls : Array Slot} {rest : List Value} {D : va_G} {cl : List vw_C} {a : Nat} {tys : List (ClassId × FieldType)} {ws : va_W} (hexec : p.tables.exec = Jvm.exec) (hb : c.code = cc) (hK : va_K D cl tys s) (hP : va_P D cl ws H) (q0 t0 : Nat) {cA : ClassId} {n : Nat} {f : Nat → Option Nat} (ha : ws[q0]? = some (a, .inl (cA, n, .inr (.inr (.inr (.inr f)))))) (ht : tys[t0]? = some (cA, .array .int)) {i : Int32} (hin : vp_in i n) (hdg : decode cc pc = .ok (.aaload, 1))
    (kk : W p l e R s m args below meth c H locs cells slots Q (F0 m (pc + 1) ls (va_rf (f i.toNatClampNeg) :: rest))) : W p l e R s m args below meth c H locs cells slots Q (F0 m pc ls (.int i :: .ref a :: rest)) := by
  have hlt : i.toNatClampNeg < n := Nat.not_le.mp fun q => hin (Or.inr q)
  exact W.aald (v := va_rf (f i.toNatClampNeg)) (ty := .array .int) hexec hb (hP q0 _ ha) ((hK.2 t0 _ ht).1 n (fun j => va_rf (f j))) rfl (fun q => by cases q) (by show ¬ (i < 0 ∨ (arrV _ _ _).slots.size ≤ _); rw [arrV_size]; exact hin) (by show (arrV _ _ _).slots[_]? = _; rw [arrV_read _ _ hlt]) rfl rfl hdg kk
theorem r_aaK {n : Nat} (hd : decode cc pc = .ok (.aaload, 1)) (hn : n < 24) (k : V κ cc own nL ret R Q M (pc + 1) f (.ref (gA κ.G (61 + n)) :: st)) : V κ cc own nL ret R Q M pc f (.int (nI n) :: .ref (gA κ.G 41) :: st) := by
  intro cx H locs ls hP hS hl
  refine va_aldA cx.1 cx.2.1 cx.2.2.2.2.2.1.2.1 hP 41 3 (n := 24) (f := fun j => some (gA κ.G (61 + j))) (by rw [Wd_at _ _ (by decide)]; rfl) rfl (vp_in_nI hn (by omega)) hd ?_
  rw [nI_clamp (by omega)]
  exact k cx H locs ls hP hS hl
theorem r_aaI {n : Nat} (hd : decode cc pc = .ok (.aaload, 1)) (hn : n < 2) (k : V κ cc own nL ret R Q M (pc + 1) f (.ref (gA κ.G (85 + n)) :: st)) : V κ cc own nL ret R Q M pc f (.int (nI n) :: .ref (gA κ.G 42) :: st) := by
  intro cx H locs ls hP hS hl
  refine va_aldA cx.1 cx.2.1 cx.2.2.2.2.2.1.2.1 hP 42 3 (n := 2) (f := fun j => some (gA κ.G (85 + j))) (by rw [Wd_at _ _ (by decide)]; rfl) rfl (vp_in_nI hn (by omega)) hd ?_
  rw [nI_clamp (by omega)]
  exact k cx H locs ls hP hS hl
/-- System.arraycopy of ints -/
theorem r_acopy {i a b x y n : Nat} (hd : decode cc pc = .ok (.invokestatic i, 3)) (hw : Cond.methodLink own i arraycopyName ∈ gtbl) (h1 : Cond.native arraycopyName ∈ gtbl) (h2 : Cond.static arraycopyName ∈ gtbl) (h3 : Cond.initialized "java/lang/System" ∈ gtbl) (ha : isIA a = true) (hb : isIA b = true) (hx : x + n ≤ lenA a) (hy : y + n ≤ lenA b) (hfr : 1 ≤ R.frames) (hlo : (st.map fun v => v.category).sum + (nativeFrameWords "java/lang/System" "arraycopy" 5 + 11) ≤ R.locals)
    (k : V κ cc own nL ret R Q (setA M b (va_cpy (M a) (M b) x y n)) (pc + 3) f st) : V κ cc own nL ret R Q M pc f (.int (nI n) :: .int (nI y) :: .ref (gA κ.G b) :: .int (nI x) :: .ref (gA κ.G a) :: st) := by
  intro cx H locs ls hP hS hl
  have l1 := lenA_le ha
  have l2 := lenA_le hb
  have ex : (nI x).toNatClampNeg = x := nI_clamp (by omega)
  have ey : (nI y).toNatClampNeg = y := nI_clamp (by omega)
  have en : (nI n).toNatClampNeg = n := nI_clamp (by omega)
  refine va_copyi cx.1 cx.2.1 (by rw [hl.1]; exact cx.2.2.1) cx.2.2.2.1 (cx.2.2.2.2.1 _ hw) (cx.2.2.2.2.1 _ h1) (cx.2.2.2.2.1 _ h2) (cx.2.2.2.2.1 _ h3) cx.2.2.2.2.2.1.2.1 hP (Wd_D cx.2.2.2.2.2.1.1 M) hS a b 0 0 (ty := .int) (by rw [Wd_at _ _ (isIA_lt ha), contE_IA _ _ ha]) (by rw [Wd_at _ _ (isIA_lt hb), contE_IA _ _ hb]) rfl rfl rfl (nI_pos (by omega)) (nI_pos (by omega)) (nI_pos (by omega)) (by rw [ex, en]; exact hx) (by rw [ey, en]; exact hy) (fun _ _ => rfl) hfr hlo hd (fun H1 locs1 hP1 _ hS1 => k cx H1 locs1 ls ?_ hS1 hl)
  rw [ex, ey, en, Wd_set _ _ (isIA_lt hb) _ (contE_IA _ _ hb)] at hP1
  exact hP1
theorem r_max {i : Nat} {x y : Int32} (hd : decode cc pc = .ok (.invokestatic i, 3)) (hw : Cond.methodLink own i Lib.Math.max.name ∈ gtbl) (h1 : Cond.static Lib.Math.max.name ∈ gtbl) (h2 : Cond.initialized "java/lang/Math" ∈ gtbl) (h3 : Cond.code Lib.Math.max.name Lib.Math.max.code 2 (some .int) ∈ gtbl) (hfr : 1 ≤ R.frames) (hlo : (st.map fun v => v.category).sum + 13 ≤ R.locals) (hc : κ.k ≤ R.cells) (hs : κ.n ≤ R.slots) (k : V κ cc own nL ret R Q M (pc + 3) f (.int (if x < y then y else x) :: st)) : V κ cc own nL ret R Q M pc f (.int y :: .int x :: st) := fun cx H locs ls hP hS hl =>
  va_mmax cx.1 cx.2.1 (by rw [hl.1]; exact cx.2.2.1) cx.2.2.2.1 (cx.2.2.2.2.1 _ hw) (cx.2.2.2.2.1 _ h1) (cx.2.2.2.2.1 _ h2) (cx.2.2.2.2.1 _ h3) hfr hlo hc hs hd (k cx H locs ls hP hS hl)
/-! ends -/
theorem r_iret {P : Option Value → Mem → Prop} {v : Int32} (hd : decode cc pc = .ok (.ireturn, 1)) (hr : ret = some .int) (hp : P (some (.int v)) M) : V κ cc own nL ret R (QM κ P) M pc f [.int v] := fun cx H locs ls hP hS hl =>
  W.iret (Qc := QcG κ.G P) cx.1 cx.2.1 (by rw [← hr]; exact cx.2.2.2.2.2.2.2.2) (fun t ht _ => ⟨⟨_, M, rfl, hp, by rw [ht]; exact hP⟩, hS.F ht⟩) hS.2.2 hd (hlocks := cx.2.2.2.2.2.2.2.1)
theorem r_zret {P : Option Value → Mem → Prop} {v : Int32} (hd : decode cc pc = .ok (.ireturn, 1)) (hr : ret = some .boolean) (hn : narrow .boolean (.int v) = .int v) (hp : P (some (.int v)) M) : V κ cc own nL ret R (QM κ P) M pc f [.int v] := fun cx H locs ls hP hS hl =>
  W.zret (Qc := QcG κ.G P) (ty := .boolean) cx.1 cx.2.1 (by rw [← hr]; exact cx.2.2.2.2.2.2.2.2) hn (fun t ht _ => ⟨⟨_, M, rfl, hp, by rw [ht]; exact hP⟩, hS.F ht⟩) hS.2.2 hd (hlocks := cx.2.2.2.2.2.2.2.1)
theorem r_lret {P : Option Value → Mem → Prop} {v : Int64} (hd : decode cc pc = .ok (.lreturn, 1)) (hr : ret = some .long) (hp : P (some (.long v)) M) : V κ cc own nL ret R (QM κ P) M pc f [.long v] := fun cx H locs ls hP hS hl =>
  W.lret (Qc := QcG κ.G P) cx.1 cx.2.1 (by rw [← hr]; exact cx.2.2.2.2.2.2.2.2) (fun t ht _ => ⟨⟨_, M, rfl, hp, by rw [ht]; exact hP⟩, hS.F ht⟩) hS.2.2 hd (hlocks := cx.2.2.2.2.2.2.2.1)
theorem r_vret {P : Option Value → Mem → Prop} (hd : decode cc pc = .ok (.return_, 1)) (hr : ret = none) (hp : P none M) : V κ cc own nL ret R (QM κ P) M pc f [] := fun cx H locs ls hP hS hl =>
  W.vret (Qc := QcG κ.G P) cx.1 cx.2.1 (by rw [← hr]; exact cx.2.2.2.2.2.2.2.2) (fun t ht _ => ⟨⟨_, M, rfl, hp, by rw [ht]; exact hP⟩, hS.F ht⟩) hS.2.2 hd (hlocks := cx.2.2.2.2.2.2.2.1)
/-! calls -/
theorem va_callG {p : Program} {l : Launch} {e : Env} {R : Room} {s : State} {m : MethodId} {args : Array Value} {below : List Frame} {meth : Method} {c : Code} {H : Heap} {locs : List Loc} {cells slots : Nat} {Q : State → Prop} {pc : Nat} {ls : Array Slot} {rest st0 : List Value} {a : Array Value} {G : Gx} {P : Option Value → Mem → Prop} (hr : va_Run p l e R s m args below meth c H locs cells slots 0 0 (F0 m pc ls st0) rest (QcG G P a) (Ax G)) (hS : va_S (Ax G) s.heap H locs)
    (kk : ∀ (v : Option Value) (M' : Mem) (H1 : Heap) (locs1 : List Loc), P v M' → va_P G.1 vwCl (Wd G M') H1 → va_S (Ax G) s.heap H1 locs1 → W p l e R s m args below meth c H1 locs1 cells slots Q (F0 m (pc + 3) ls (v.toList ++ rest))) : W p l e R s m args below meth c H locs cells slots Q (F0 m pc ls st0) := by
  intro T hT X
  obtain ⟨v, st₀, t, T', L, h0, X', hL, e1, e2, ⟨⟨v', M', hv, hp, hw⟩, hz, hk⟩, st⟩ := hr T hT X
  cases hv
  rw [h0] at hz hk
  obtain ⟨t2, a1, b1⟩ := kk v M' T'.heap (locs ++ L) hp (by rw [e1]; exact hw)
    ⟨Nat.le_trans hS.1 (by rw [e1]; exact hz), fun q h1 h2 => by rw [e1, hk q (Nat.lt_of_lt_of_le h1 hS.1) h2]; exact hS.2.1 q h1 h2, fun q hq => by
      rcases List.mem_append.mp hq with h | h
      · exact hS.2.2 q h
      · exact hL q h⟩ T' rfl X'
  exact ⟨t2, st t2 a1, b1⟩
theorem preG {cx : Cx κ cc own nL ret} {H : Heap} {locs : List Loc} (hP : va_P κ.G.1 vwCl (Wd κ.G M) H) (hS : va_S (Ax κ.G) κ.s.heap H locs) (As : List Value) : ∀ U : State, U.heap = H → κ.s.WarmedH U.vm → PcG κ.G As M As.toArray U := fun U hU hW =>
  ⟨rfl, by rw [hU]; exact hP, cx.2.2.2.2.2.1.go hW, by rw [hU]; exact Ex.go hW (fun a h1 h2 => hS.2.1 a h1 h2) cx.2.2.2.2.2.2.1⟩
theorem recvG {cx : Cx κ cc own nL ret} {H : Heap} (hP : va_P κ.G.1 vwCl (Wd κ.G M) H) {o ci N : Nat} {C : String} {T : u_T} (ho : clsO o = some ci) (hc : vwCl[ci]? = some (C, T, N)) : ∃ cellB : Cell, H[gA κ.G o]? = some cellB ∧ cellB.vm.isStatics = false ∧ κ.s.vm.findClass C = some cellB.cls :=
  va_recv (ci := ci) (q0 := o) (ws := Wd κ.G M) cx.2.2.2.2.2.1.2.1 hP hc (by rw [Wd_at _ _ (clsO_lt ho), contE_cls _ _ ho])
theorem r_callV {y : MethodName} {cb : ByteArray} {n fr lo i n' o ci N : Nat} {rt : Option FieldType} {C : String} {T : u_T} {As : List Value} {P : Option Value → Mem → Prop} (hw : Cond.methodLink own i y ∈ gtbl) (h1 : Cond.instanceMethod y ∈ gtbl) (h2 : Cond.selects C y y ∈ gtbl) (h3 : Cond.initialized C ∈ gtbl) (h4 : Cond.code y cb n rt ∈ gtbl) (hy : y.cls = C ∧ y.cls ≠ "java/lang/invoke/MethodHandle" ∧ y.cls ≠ "java/lang/invoke/VarHandle" ∧ (parseMethodDescriptor y.desc).map (fun d => d.parameters.length) = some n') (hn : As.length = n') (hc : vwCl[ci]? = some (C, T, N)) (ho : clsO o = some ci)
    (hC : Con κ.l κ.G y cb n rt fr lo (.ref (gA κ.G o) :: As) M P) (hR : fr + 1 ≤ R.frames ∧ 8 + (n + 11) + lo ≤ R.locals) (hst : (st.map fun v => v.category).sum ≤ 8) (hcs : κ.k ≤ R.cells ∧ κ.n ≤ R.slots) (hd : decode cc pc = .ok (.invokevirtual i, 3)) (k : ∀ (v : Option Value) (M' : Mem), P v M' → V κ cc own nL ret R Q M' (pc + 3) f (v.toList ++ st)) : V κ cc own nL ret R Q M pc f (As.reverse ++ .ref (gA κ.G o) :: st) := fun cx H locs ls hP hS hl =>
  va_callG (va_runV (As := As) (rest := st) (C := C) (bytes := cb) (maxL := n) (ret := rt) ⟨cx.1, cx.2.1, cx.2.2.1, cx.2.2.2.1, cx.2.2.2.2.1⟩ hC (cwV n' cx.2.2.2.2.1 (by
      intro w hw'
      rcases List.mem_append.mp hw' with h | h
      · have : w ∈ gtbl := by
          simp only [List.mem_cons, List.not_mem_nil, or_false] at h
          rcases h with rfl | rfl | rfl | rfl <;> assumption
        exact ⟨this, gtbl_good this⟩
      · exact good_g h4 w h) rfl rfl rfl hy hR) ⟨PcG_blind _ _ _, recvG (cx := cx) hP ho hc, preG (cx := cx) hP hS _⟩ rfl hn hl.1 rfl (lv_room hst) hd hcs) hS (fun v M' H1 locs1 hp hP1 hS1 => k v M' hp cx H1 locs1 ls hP1 hS1 hl)
theorem r_callN {y : MethodName} {cb : ByteArray} {n fr lo i n' o ci N : Nat} {rt : Option FieldType} {C host : String} {T : u_T} {As : List Value} {P : Option Value → Mem → Prop} (hw : Cond.methodLinkNest own i y host ∈ ntbl) (h1 : Cond.instanceMethod y ∈ gtbl) (h2 : Cond.selects C y y ∈ gtbl) (h3 : Cond.initialized y.cls ∈ gtbl) (h4 : Cond.code y cb n rt ∈ gtbl) (hy : y.cls ≠ "java/lang/invoke/MethodHandle" ∧ y.cls ≠ "java/lang/invoke/VarHandle" ∧ (parseMethodDescriptor y.desc).map (fun d => d.parameters.length) = some n') (hn : As.length = n') (hc : vwCl[ci]? = some (C, T, N)) (ho : clsO o = some ci)
    (hC : Con κ.l κ.G y cb n rt fr lo (.ref (gA κ.G o) :: As) M P) (hR : fr + 1 ≤ R.frames ∧ 8 + (n + 11) + lo ≤ R.locals) (hst : (st.map fun v => v.category).sum ≤ 8) (hcs : κ.k ≤ R.cells ∧ κ.n ≤ R.slots) (hd : decode cc pc = .ok (.invokevirtual i, 3)) (k : ∀ (v : Option Value) (M' : Mem), P v M' → V κ cc own nL ret R Q M' (pc + 3) f (v.toList ++ st)) : V κ cc own nL ret R Q M pc f (As.reverse ++ .ref (gA κ.G o) :: st) := fun cx H locs ls hP hS hl =>
  va_callG (va_runVN (As := As) (rest := st) (C := C) (bytes := cb) (maxL := n) (ret := rt) ⟨cx.1, cx.2.1, cx.2.2.1, cx.2.2.2.1, cx.2.2.2.2.1⟩ hC ⟨va_cnB n' cx.2.2.2.2.1 (good_g h4) rfl rfl rfl (cx.2.2.2.2.2.1.2.2 _ hw) (cx.2.2.2.2.1 _ h3) hy hR, cx.2.2.2.2.1 _ h1, cx.2.2.2.2.1 _ h2⟩ ⟨PcG_blind _ _ _, recvG (cx := cx) hP ho hc, preG (cx := cx) hP hS _⟩ rfl hn hl.1 rfl (lv_room hst) hd hcs) hS (fun v M' H1 locs1 hp hP1 hS1 => k v M' hp cx H1 locs1 ls hP1 hS1 hl)
theorem r_callS {y : MethodName} {cb : ByteArray} {n fr lo i n' : Nat} {rt : Option FieldType} {As : List Value} {P : Option Value → Mem → Prop} (hw : Cond.methodLink own i y ∈ gtbl) (h1 : Cond.static y ∈ gtbl) (h3 : Cond.initialized y.cls ∈ gtbl) (h4 : Cond.code y cb n rt ∈ gtbl) (hy : y.cls ≠ "java/lang/invoke/MethodHandle" ∧ y.cls ≠ "java/lang/invoke/VarHandle" ∧ (parseMethodDescriptor y.desc).map (fun d => d.parameters.length) = some n') (hn : As.length = n')
    (hC : Con κ.l κ.G y cb n rt fr lo As M P) (hR : fr + 1 ≤ R.frames ∧ 8 + (n + 11) + lo ≤ R.locals) (hst : (st.map fun v => v.category).sum ≤ 8) (hcs : κ.k ≤ R.cells ∧ κ.n ≤ R.slots) (hd : decode cc pc = .ok (.invokestatic i, 3)) (k : ∀ (v : Option Value) (M' : Mem), P v M' → V κ cc own nL ret R Q M' (pc + 3) f (v.toList ++ st)) : V κ cc own nL ret R Q M pc f (As.reverse ++ st) := fun cx H locs ls hP hS hl =>
  va_callG (va_runS (As := As) (rest := st) (bytes := cb) (maxL := n) (ret := rt) ⟨cx.1, cx.2.1, cx.2.2.1, cx.2.2.2.1, cx.2.2.2.2.1⟩ hC (va_cwS n' cx.2.2.2.2.1 (by
      intro w hw'
      rcases List.mem_append.mp hw' with h | h
      · have : w ∈ gtbl := by
          simp only [List.mem_cons, List.not_mem_nil, or_false] at h
          rcases h with rfl | rfl | rfl <;> assumption
        exact ⟨this, gtbl_good this⟩
      · exact good_g h4 w h) rfl rfl rfl hy hR) ⟨PcG_blind _ _ _, preG (cx := cx) hP hS _⟩ rfl hn hl.1 rfl (lv_room hst) hd hcs) hS (fun v M' H1 locs1 hp hP1 hS1 => k v M' hp cx H1 locs1 ls hP1 hS1 hl)
theorem r_callT {y : MethodName} {cb : ByteArray} {n fr lo i n' : Nat} {rt : Option FieldType} {host : String} {As : List Value} {P : Option Value → Mem → Prop} (hw : Cond.methodLinkNest own i y host ∈ ntbl) (h1 : Cond.static y ∈ gtbl) (h3 : Cond.initialized y.cls ∈ gtbl) (h4 : Cond.code y cb n rt ∈ gtbl) (hy : y.cls ≠ "java/lang/invoke/MethodHandle" ∧ y.cls ≠ "java/lang/invoke/VarHandle" ∧ (parseMethodDescriptor y.desc).map (fun d => d.parameters.length) = some n') (hn : As.length = n')
    (hC : Con κ.l κ.G y cb n rt fr lo As M P) (hR : fr + 1 ≤ R.frames ∧ 8 + (n + 11) + lo ≤ R.locals) (hst : (st.map fun v => v.category).sum ≤ 8) (hcs : κ.k ≤ R.cells ∧ κ.n ≤ R.slots) (hd : decode cc pc = .ok (.invokestatic i, 3)) (k : ∀ (v : Option Value) (M' : Mem), P v M' → V κ cc own nL ret R Q M' (pc + 3) f (v.toList ++ st)) : V κ cc own nL ret R Q M pc f (As.reverse ++ st) := fun cx H locs ls hP hS hl =>
  va_callG (va_runSN (As := As) (rest := st) (bytes := cb) (maxL := n) (ret := rt) ⟨cx.1, cx.2.1, cx.2.2.1, cx.2.2.2.1, cx.2.2.2.2.1⟩ hC ⟨va_cnB n' cx.2.2.2.2.1 (good_g h4) rfl rfl rfl (cx.2.2.2.2.2.1.2.2 _ hw) (cx.2.2.2.2.1 _ h3) hy hR, cx.2.2.2.2.1 _ h1, trivial⟩ ⟨PcG_blind _ _ _, preG (cx := cx) hP hS _⟩ rfl hn hl.1 rfl (lv_room hst) hd hcs) hS (fun v M' H1 locs1 hp hP1 hS1 => k v M' hp cx H1 locs1 ls hP1 hS1 hl)
end ROWS

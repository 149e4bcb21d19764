theorem Con.imp {l : Launch} {G : Gx} {y : MethodName} {cc : ByteArray} {nL : Nat} {ret : Option FieldType} {fr lo : Nat} {As : List Value} {M : Mem} {P P' : Option Value → Mem → Prop} (h : Con l G y cc nL ret fr lo As M P) (hp : ∀ v M', P v M' → P' v M') : Con l G y cc nL ret fr lo As M P' := by
  intro p e ha hc hk s m args below hf happ hpre hK
  obtain ⟨n, o, h1, h2, h3, ⟨⟨v, M', e1, e2, e3⟩, e4⟩, e5⟩ := h p e ha hc hk s m args below hf happ hpre hK
  exact ⟨n, o, h1, h2, h3, ⟨⟨v, M', e1, hp v M' e2, e3⟩, e4⟩, e5⟩
def qI (r : Int32) (F : Mem → Prop) : Option Value → Mem → Prop := fun v M' => v = some (.int r) ∧ F M'
def qL (r : Int64) (F : Mem → Prop) : Option Value → Mem → Prop := fun v M' => v = some (.long r) ∧ F M'
def qV (F : Mem → Prop) : Option Value → Mem → Prop := fun v M' => v = none ∧ F M'
section KQ
variable {κ : Kx} {cc : ByteArray} {nL : Nat} {ret : Option FieldType} {R : Room} {Q : State → Prop} {M : Mem} {pc : Nat} {f : List (Option Value)} {st : List Value} {own : String}
theorem kqI {r : Int32} {F : Mem → Prop} (k : ∀ N, F N → V κ cc own nL ret R Q N pc f (.int r :: st)) : ∀ v M', qI r F v M' → V κ cc own nL ret R Q M' pc f (v.toList ++ st) := by
  rintro _ N ⟨rfl, h⟩
  exact k N h
theorem kqV {F : Mem → Prop} (k : ∀ N, F N → V κ cc own nL ret R Q N pc f st) : ∀ v M', qV F v M' → V κ cc own nL ret R Q M' pc f (v.toList ++ st) := by
  rintro _ N ⟨rfl, h⟩
  exact k N h
end KQ
/-- a night, a run of nights, as numbers alone -/
def nightP (S : Nat → Int32) (n : Nat) : Nat → Int32 := nightS S (fun _ => nI 0) n
def goP (S : Nat → Int32) (n : Nat) : Nat → Nat → Int32
  | 0 => S
  | k + 1 => nightP (goP S n k) n
theorem offN_b (S : Nat → Int32) {n : Nat} (hn : 0 < n) {b b' : Nat → Int32} (h : ∀ c, c < n → b c = b' c) : ∀ s c, c < n → offN S n b s c = offN S n b' s c
  | 0, c, hc => h c hc
  | s + 1, c, hc => by
    unfold offN
    have ih := offN_b S hn h s
    split
    · rename_i hs
      obtain ⟨d, hd, e⟩ := tgtS_nn S hn hs.1
      rw [e]
      unfold upd
      split
      · rw [ih _ (by omega)]
      · exact ih c hc
    · exact ih c hc
theorem nightN_b (S : Nat → Int32) {off off' : Nat → Int32} (cg : Int32) : ∀ c, (∀ d, d < c → off d = off' d) → nightN S off cg c = nightN S off' cg c
  | 0, _ => rfl
  | c + 1, h => by
    unfold nightN
    rw [nightN_b S cg c (fun d hd => h d (by omega)), h c (Nat.lt_succ_self c)]
theorem nightS_P (S b : Nat → Int32) {n : Nat} (hn : 0 < n) : nightS S (zerA b n) n = nightP S n := by
  unfold nightP nightS
  rw [nightN_b S (cgtN S n n) n (offN_b S hn (fun c hc => by unfold zerA pt; rw [if_pos hc]) n)]
theorem nightN_hi (S off : Nat → Int32) (cg : Int32) {k : Nat} (h : 41 ≤ k) : ∀ c, c ≤ 6 → nightN S off cg c k = S k
  | 0, _ => rfl
  | c + 1, hc => by
    unfold nightN
    rw [pk_un (by omega), pk_un (by omega), pk_un (by omega)]
    exact nightN_hi S off cg h c (by omega)
theorem nightP_hi (S : Nat → Int32) {n k : Nat} (h : 41 ≤ k) (hn : n ≤ 6) : nightP S n k = S k := by
  unfold nightP nightS
  rw [pk_un (by omega)]
  exact nightN_hi _ _ _ h n hn
theorem nightP_2 (S : Nat → Int32) (n : Nat) : nightP S n 2 = S 2 := nightS_lo _ _ _ (by omega)
theorem goP_2 (S : Nat → Int32) (n : Nat) : ∀ k, goP S n k 2 = S 2
  | 0 => rfl
  | k + 1 => (nightP_2 _ _).trans (goP_2 S n k)
/-- the reference foretells: its numbers are S, what it put aside is M's; nothing else has changed -/
def rs (M : Mem) (S : Nat → Int32) (N : Mem) : Prop := N 4 = S ∧ (∀ k, k < 41 → N 10 k = M 4 k) ∧ (∀ k, 41 ≤ k → S k = M 4 k) ∧ (∀ q, q ≠ 0 → q ≠ 4 → q ≠ 8 → q ≠ 10 → N q = M q) ∧ ∀ j, j ≠ 17 → N 0 j = M 0 j
/-- nothing but scratch has changed -/
def qm (M N : Mem) : Prop := (∀ q, q ≠ 0 → q ≠ 8 → q ≠ 10 → N q = M q) ∧ ∀ j, j ≠ 17 → N 0 j = M 0 j
theorem qm.refl (M : Mem) : qm M M := ⟨fun _ _ _ _ => rfl, fun _ _ => rfl⟩
theorem rs.qm {M N : Mem} (h : rs M (M 4) N) : qm M N := by
  refine ⟨fun q h1 h2 h3 => ?_, h.2.2.2.2⟩
  by_cases e : q = 4
  · subst e
    exact h.1
  · exact h.2.2.2.1 q h1 e h2 h3
theorem rs.put {M N : Mem} {S : Nat → Int32} (h : rs M S N) {i : Nat} (hi : i < 41) (v : Int32) : rs M (upd S i v) (mset N 4 i v) := by
  obtain ⟨h1, h2, h3, h4, h5⟩ := h
  refine ⟨by rw [mset_eq, h1], fun k hk => ?_, fun k hk => ?_, fun q a b c d => ?_, fun j hj => ?_⟩
  · rw [mset_ne _ _ _ (by decide)]
    exact h2 k hk
  · rw [pk_un (by omega)]
    exact h3 k hk
  · rw [mset_ne _ _ _ b]
    exact h4 q a b c d
  · rw [mset_ne _ _ _ (by decide)]
    exact h5 j hj
theorem rs.night {M N : Mem} {S : Nat → Int32} (h : rs M S N) {n : Nat} (hn1 : 0 < n) (hn6 : n ≤ 6) : rs M (nightP S n) (nightM N n) := by
  obtain ⟨h1, h2, h3, h4, h5⟩ := h
  refine ⟨by rw [nightM_4, h1, nightS_P S _ hn1], fun k hk => ?_, fun k hk => ?_, fun q a b c d => ?_, fun j hj => ?_⟩
  · show N 10 k = _
    exact h2 k hk
  · rw [nightP_hi S hk hn6]
    exact h3 k hk
  · unfold nightM
    rw [setA_ne _ _ b, setA_ne _ _ c, mset_ne _ _ _ a]
    exact h4 q a b c d
  · show mset N 0 17 _ 0 j = _
    rw [mset_eq, pk_un hj]
    exact h5 j hj
theorem rs.go {M N : Mem} {S : Nat → Int32} (h : rs M S N) {n : Nat} (hn1 : 0 < n) (hn6 : n ≤ 6) : ∀ k, rs M (goP S n k) (goM N n k)
  | 0 => h
  | k + 1 => (rs.go h hn1 hn6 k).night hn1 hn6
theorem rs.back {M N : Mem} {S : Nat → Int32} (h : rs M S N) : rs M (M 4) (backM N) := by
  obtain ⟨h1, h2, h3, h4, h5⟩ := h
  refine ⟨?_, fun k hk => ?_, fun k hk => rfl, fun q a b c d => ?_, fun j hj => ?_⟩
  · funext k
    show pt (N 4) (N 10) 41 k = _
    unfold pt
    split
    · rename_i hk
      exact h2 k hk
    · rw [h1]
      exact h3 k (by omega)
  · show N 10 k = _
    exact h2 k hk
  · unfold backM
    rw [setA_ne _ _ b]
    exact h4 q a b c d
  · show N 0 j = _
    exact h5 j hj
theorem rs.aside (M : Mem) : rs M (M 4) (asideM M) := by
  refine ⟨rfl, fun k hk => ?_, fun k hk => rfl, fun q a b c d => ?_, fun j hj => rfl⟩
  · show pt (M 10) (M 4) 41 k = _
    unfold pt
    rw [if_pos hk]
  · unfold asideM
    rw [setA_ne _ _ d]
theorem rs.n2 {M N : Mem} {S : Nat → Int32} (h : rs M S N) {n : Nat} (hS : S 2 = nI n) : N 4 2 = nI n := by rw [h.1]; exact hS
section RC
variable (l : Launch) (G : Gx)
theorem d_X6_putAside (M : Mem) : Con l G yX6_putAside cX6_putAside 2 none 0 0 [.ref (gA G 0)] M (qV (rs M (M 4))) := (c_X6_putAside l G M).imp (fun _ _ h => ⟨h.1, by rw [h.2]; exact rs.aside M⟩)
theorem d_X6_takeBack (M N : Mem) (S : Nat → Int32) (h : rs M S N) : Con l G yX6_takeBack cX6_takeBack 2 none 0 0 [.ref (gA G 0)] N (qV (rs M (M 4))) := (c_X6_takeBack l G N).imp (fun _ _ h' => ⟨h'.1, by rw [h'.2]; exact h.back⟩)
theorem d_X6_oneNight (M N : Mem) (S : Nat → Int32) (n : Nat) (h : rs M S N) (hn : S 2 = nI n) (hn6 : n ≤ 6) (hn1 : 0 < n) : Con l G yX6_oneNight cX6_oneNight 4 none 5 111 [.ref (gA G 0)] N (qV (rs M (nightP S n))) := (c_X6_oneNight l G N n (h.n2 hn) hn6 hn1).imp (fun _ _ h' => ⟨h'.1, by rw [h'.2]; exact h.night hn1 hn6⟩)
theorem d_X6_goOn (M N : Mem) (S : Nat → Int32) (m n : Nat) (hm : m ≤ 60) (h : rs M S N) (hn : S 2 = nI n) (hn6 : n ≤ 6) (hn1 : 0 < n) : Con l G yX6_goOn cX6_goOn 3 none 6 134 [.ref (gA G 0), .int (nI m)] N (qV (rs M (goP S n m))) := (c_X6_goOn l G N m n hm (h.n2 hn) hn6 hn1).imp (fun _ _ h' => ⟨h'.1, by rw [h'.2]; exact h.go hn1 hn6 m⟩)
theorem d_X6_rankBy (M N : Mem) (S : Nat → Int32) (c m n : Nat) (hc : c < 6) (hm : m ≤ 60) (h : rs M S N) (hn : S 2 = nI n) (hn6 : n ≤ 6) (hn1 : 0 < n) : Con l G yX6_rankBy cX6_rankBy 4 (some .int) 7 156 [.ref (gA G 0), .int (nI c), .int (nI m)] N (qI (nI (rankN (goP S n m) c n)) (rs M (M 4))) := (c_X6_rankBy l G N c m n hc hm (h.n2 hn) hn6 hn1).imp (fun _ _ h' => ⟨by rw [h'.1, (h.go hn1 hn6 m).1], by rw [h'.2]; exact (h.go hn1 hn6 m).back⟩)
end RC

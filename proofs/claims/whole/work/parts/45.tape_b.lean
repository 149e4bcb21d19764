theorem tsO_3 {T : Nat → Int32} {b p f sg : Nat} (h : f ≤ 3) : (tsO T b p f sg).2 ≤ 3 := by
  unfold tsO
  split
  · split
    · exact Nat.zero_le _
    · show 1 ≤ 3; omega
  · exact h
theorem tnO_3 {T : Nat → Int32} {b p f lo hi : Nat} (h : f ≤ 3) : (tnO T b p f lo hi).2.2 ≤ 3 := by
  unfold tnO
  split
  · split
    · split
      · exact Nat.zero_le _
      · show 2 ≤ 3; omega
    · show 1 ≤ 3; omega
  · exact h
def ns (T : Nat → Int32) (b lo hi sg : Nat) (x : Nat × Nat) : Nat × Nat × Nat := ((tnO T b x.1 x.2 lo hi).1, tsO T b (tnO T b x.1 x.2 lo hi).2.1 (tnO T b x.1 x.2 lo hi).2.2 sg)
theorem ns_f {T : Nat → Int32} {b lo hi sg p f : Nat} (h : f ≠ 0) : ns T b lo hi sg (p, f) = (0, p, f) := by
  show ((tnO T b p f lo hi).1, tsO T b (tnO T b p f lo hi).2.1 (tnO T b p f lo hi).2.2 sg) = _
  rw [tnO_f h, tsO_f h]
theorem ns_l {T : Nat → Int32} {b lo hi sg p pl w : Nat} (h : nmO T b p lo hi sg = .inl (pl, w)) : (ns T b lo hi sg (p, 0)).2 = (pl, w) ∧ w ≠ 0 ∧ w ≤ 3 := nmO_l h
theorem ns_r {T : Nat → Int32} {b lo hi sg p v p2 : Nat} (h : nmO T b p lo hi sg = .inr (v, p2)) : ns T b lo hi sg (p, 0) = (v, p2, 0) ∧ lo ≤ v ∧ v ≤ hi ∧ p2 ≤ b := by
  obtain ⟨h1, h2, h3⟩ := nmO_r h
  refine ⟨?_, h3⟩
  show ((tnO T b p 0 lo hi).1, tsO T b (tnO T b p 0 lo hi).2.1 (tnO T b p 0 lo hi).2.2 sg) = _
  rw [h1, h2]
theorem pr2 {a p f : Nat} {y : Nat × Nat × Nat} (h : y.2 = (p, f)) : y = (y.1, p, f) := by rw [← h]
theorem lw_l {T : Nat → Int32} {b pl w : Nat} (h : lwO T b = .inl (pl, w)) : (ns T b 1 9 59 (ns T b 0 5 44 (tsO T b 0 0 109)).2).2 = (pl, w) ∧ w ≠ 0 ∧ w ≤ 3 := by
  unfold lwO at h
  by_cases hs : isS T b 0 109
  · rw [if_pos hs] at h
    rw [show tsO T b 0 0 109 = (1, 0) by rw [tsO, if_pos rfl, if_pos hs]]
    cases hn : nmO T b 1 0 5 44 with
    | inl e =>
      obtain ⟨pl2, w2⟩ := e
      rw [hn] at h
      cases h
      obtain ⟨a1, a2, a3⟩ := ns_l hn
      rw [a1, ns_f a2]
      exact ⟨rfl, a2, a3⟩
    | inr e =>
      obtain ⟨w1, p1⟩ := e
      rw [hn] at h
      dsimp only at h
      obtain ⟨a1, -⟩ := ns_r hn
      rw [a1]
      cases hn2 : nmO T b p1 1 9 59 with
      | inl e =>
        obtain ⟨pl2, w2⟩ := e
        rw [hn2] at h
        cases h
        exact ns_l hn2
      | inr e =>
        obtain ⟨g1, p2⟩ := e
        rw [hn2] at h
        cases h
  · rw [if_neg hs] at h
    cases h
    rw [show tsO T b 0 0 109 = (0, 1) by rw [tsO, if_pos rfl, if_neg hs], ns_f (show (1 : Nat) ≠ 0 by decide)]
    dsimp only
    rw [ns_f (show (1 : Nat) ≠ 0 by decide)]
    exact ⟨rfl, by decide, by decide⟩
theorem lw_r {T : Nat → Int32} {b w g p2 : Nat} (h : lwO T b = .inr ((w, g), p2)) : (ns T b 0 5 44 (tsO T b 0 0 109)).1 = w ∧ ns T b 1 9 59 (ns T b 0 5 44 (tsO T b 0 0 109)).2 = (g, p2, 0) ∧ w ≤ 5 ∧ 1 ≤ g ∧ g ≤ 9 ∧ p2 ≤ b := by
  unfold lwO at h
  by_cases hs : isS T b 0 109
  · rw [if_pos hs] at h
    rw [show tsO T b 0 0 109 = (1, 0) by rw [tsO, if_pos rfl, if_pos hs]]
    cases hn : nmO T b 1 0 5 44 with
    | inl e =>
      rw [hn] at h
      cases h
    | inr e =>
      obtain ⟨w1, p1⟩ := e
      rw [hn] at h
      dsimp only at h
      obtain ⟨a1, a2, a3, a4⟩ := ns_r hn
      rw [a1]
      cases hn2 : nmO T b p1 1 9 59 with
      | inl e =>
        rw [hn2] at h
        cases h
      | inr e =>
        obtain ⟨g1, p2⟩ := e
        rw [hn2] at h
        cases h
        obtain ⟨b1, b2, b3, b4⟩ := ns_r hn2
        exact ⟨rfl, b1, a3, b2, b3, b4⟩
  · rw [if_neg hs] at h
    cases h
theorem mn_l {T : Nat → Int32} {b pl w : Nat} {Z : Nat → Int32} (h : lwO T b = .inl (pl, w)) : mnO T b Z = .inl (pl, w) := by
  unfold lwO at h
  unfold mnO
  by_cases hs : isS T b 0 109
  · rw [if_pos hs] at h ⊢
    cases hn : nmO T b 1 0 5 44 with
    | inl e => rw [hn] at h; dsimp only at h ⊢; cases h; rfl
    | inr e =>
      obtain ⟨w1, p1⟩ := e
      rw [hn] at h
      dsimp only at h ⊢
      cases hn2 : nmO T b p1 1 9 59 with
      | inl e => rw [hn2] at h; dsimp only at h ⊢; cases h; rfl
      | inr e => rw [hn2] at h; cases h
  · rw [if_neg hs] at h ⊢
    cases h
    rfl
theorem mn_r {T : Nat → Int32} {b w g p2 : Nat} {Z : Nat → Int32} (h : lwO T b = .inr ((w, g), p2)) : mnO T b Z = msO T b 7 p2 0 (upd (upd Z 0 (nI w)) 1 (nI g)) := by
  unfold lwO at h
  unfold mnO
  by_cases hs : isS T b 0 109
  · rw [if_pos hs] at h ⊢
    cases hn : nmO T b 1 0 5 44 with
    | inl e => rw [hn] at h; cases h
    | inr e =>
      obtain ⟨w1, p1⟩ := e
      rw [hn] at h
      dsimp only at h ⊢
      cases hn2 : nmO T b p1 1 9 59 with
      | inl e => rw [hn2] at h; cases h
      | inr e =>
        obtain ⟨g1, p3⟩ := e
        rw [hn2] at h
        dsimp only at h ⊢
        cases h
        rfl
  · rw [if_neg hs] at h
    cases h
abbrev y1 (T : Nat → Int32) (b p : Nat) : Nat × Nat × Nat := ns T b 0 60 44 (p + 1, 0)
abbrev y2 (T : Nat → Int32) (b p : Nat) : Nat × Nat × Nat := ns T b 0 9 44 (y1 T b p).2
abbrev y3 (T : Nat → Int32) (b p : Nat) : Nat × Nat × Nat := ns T b 0 3 59 (y2 T b p).2
theorem ch_l {T : Nat → Int32} {b p c pl w : Nat} (hs : srt T b p ≠ 0) (hc : c ≠ 6) (h : chO T b p c = .inl (pl, w)) : (y3 T b p).2 = (pl, w) ∧ w ≠ 0 ∧ w ≤ 3 := by
  unfold chO at h
  rw [if_neg hs, if_neg hc] at h
  cases hn : nmO T b (p + 1) 0 60 44 with
  | inl e =>
    obtain ⟨pl2, w2⟩ := e
    rw [hn] at h
    cases h
    obtain ⟨a1, a2, a3⟩ := ns_l hn
    show (ns T b 0 3 59 (ns T b 0 9 44 (ns T b 0 60 44 (p + 1, 0)).2).2).2 = _ ∧ _
    rw [a1, ns_f a2, ns_f a2]
    exact ⟨rfl, a2, a3⟩
  | inr e =>
    obtain ⟨v1, p1⟩ := e
    rw [hn] at h
    dsimp only at h
    obtain ⟨a1, -⟩ := ns_r hn
    show (ns T b 0 3 59 (ns T b 0 9 44 (ns T b 0 60 44 (p + 1, 0)).2).2).2 = _ ∧ _
    rw [a1]
    cases hn2 : nmO T b p1 0 9 44 with
    | inl e =>
      obtain ⟨pl2, w2⟩ := e
      rw [hn2] at h
      cases h
      obtain ⟨c1, c2, c3⟩ := ns_l hn2
      dsimp only
      rw [c1, ns_f c2]
      exact ⟨rfl, c2, c3⟩
    | inr e =>
      obtain ⟨v2, p2⟩ := e
      rw [hn2] at h
      dsimp only at h
      obtain ⟨c1, -⟩ := ns_r hn2
      dsimp only
      rw [c1]
      cases hn3 : nmO T b p2 0 3 59 with
      | inl e =>
        obtain ⟨pl2, w2⟩ := e
        rw [hn3] at h
        cases h
        exact ns_l hn3
      | inr e =>
        rw [hn3] at h
        cases h
theorem ch_r {T : Nat → Int32} {b p c p2 : Nat} {d : Nat × Nat × Nat × Nat} (h : chO T b p c = .inr (d, p2)) : srt T b p ≠ 0 ∧ c ≠ 6 ∧ (y3 T b p).2 = (p2, 0) ∧ d = (srt T b p, (y1 T b p).1, (y2 T b p).1, (y3 T b p).1) ∧ d.2.1 ≤ 60 ∧ d.2.2.1 ≤ 9 ∧ d.2.2.2 ≤ 3 ∧ p2 ≤ b := by
  unfold chO at h
  by_cases hs : srt T b p = 0
  · rw [if_pos hs] at h; cases h
  rw [if_neg hs] at h
  by_cases hc : c = 6
  · rw [if_pos hc] at h; cases h
  rw [if_neg hc] at h
  refine ⟨hs, hc, ?_⟩
  cases hn : nmO T b (p + 1) 0 60 44 with
  | inl e => rw [hn] at h; cases h
  | inr e =>
    obtain ⟨v1, p1⟩ := e
    rw [hn] at h
    dsimp only at h
    obtain ⟨a1, a2, a3, -⟩ := ns_r hn
    show (ns T b 0 3 59 (ns T b 0 9 44 (ns T b 0 60 44 (p + 1, 0)).2).2).2 = _ ∧ d = (srt T b p, (ns T b 0 60 44 (p + 1, 0)).1, (ns T b 0 9 44 (ns T b 0 60 44 (p + 1, 0)).2).1, (ns T b 0 3 59 (ns T b 0 9 44 (ns T b 0 60 44 (p + 1, 0)).2).2).1) ∧ _
    rw [a1]
    cases hn2 : nmO T b p1 0 9 44 with
    | inl e => rw [hn2] at h; cases h
    | inr e =>
      obtain ⟨v2, q2⟩ := e
      rw [hn2] at h
      dsimp only at h
      obtain ⟨c1, c2, c3, -⟩ := ns_r hn2
      dsimp only
      rw [c1]
      cases hn3 : nmO T b q2 0 3 59 with
      | inl e => rw [hn3] at h; cases h
      | inr e =>
        obtain ⟨v3, q3⟩ := e
        rw [hn3] at h
        cases h
        obtain ⟨d1, d2, d3, d4⟩ := ns_r hn3
        dsimp only
        rw [d1]
        exact ⟨rfl, rfl, a3, c3, d3, d4⟩
/-- ranges of what is read so far -/
def zq (c : Nat) (R : Nat → Int32) : Prop := zz R ∧ (∃ g, 0 ≤ g ∧ g ≤ 9 ∧ R 1 = nI g) ∧ R 2 = nI c ∧ ∀ i, i < c → Rc R i
theorem zq_s {c : Nat} {R : Nat → Int32} {d : Nat × Nat × Nat × Nat} (h : zq c R) (hc : c < 6) (h1 : 1 ≤ d.1) (h2 : d.1 ≤ 5) (h3 : d.2.1 ≤ 60) (h4 : d.2.2.1 ≤ 9) (h5 : d.2.2.2 ≤ 3) : zq (c + 1) (chR R c d) := by
  obtain ⟨z1, z2, z3, z4⟩ := h
  have z := chR_zz z1 hc d
  refine ⟨z, ?_, chR_2 R d hc, fun i hi => ?_⟩
  · obtain ⟨g, g1, g2, g3⟩ := z2
    refine ⟨g, g1, g2, ?_⟩
    unfold chR
    rw [pk_un (by omega), pk_un (by omega), pk_un (by omega), pk_un (by omega), pk_un (by omega)]
    exact g3
  · by_cases e : i = c
    · subst e
      refine ⟨⟨d.1, h1, h2, ?_⟩, ⟨d.2.1, h3, ?_⟩, ⟨d.2.2.1, h4, ?_⟩, ⟨d.2.2.2, h5, ?_⟩, ⟨0, by omega, (z.2.2 i hc).1⟩⟩
      · unfold chR; rw [pk_un (by omega), pk_un (by omega), pk_un (by omega), pk_un (by omega), pk_us]
      · unfold chR; rw [pk_un (by omega), pk_un (by omega), pk_us]
      · unfold chR; rw [pk_un (by omega), pk_us]
      · unfold chR; rw [pk_us]
    · have r := z4 i (by omega)
      unfold Rc at r ⊢
      have k : ∀ j, j = 5 + i ∨ j = 11 + i ∨ j = 17 + i ∨ j = 23 + i ∨ j = 29 + i → chR R c d j = R j := fun j hj => by
        unfold chR
        rw [pk_un (by omega), pk_un (by omega), pk_un (by omega), pk_un (by omega), pk_un (by omega)]
      rw [k _ (by omega), k _ (by omega), k _ (by omega), k _ (by omega), k _ (by omega)]
      exact r
theorem zq_Rg {c : Nat} {R : Nat → Int32} (h : zq c R) (hc : c ≤ 6) : Rg c R := ⟨hc, h.2.2.1, h.2.1, ⟨0, Nat.two_pow_pos c, h.1.2.1⟩, h.2.2.2⟩
def ftp (M N : Mem) : Prop := (∀ q, q ≠ 16 → q ≠ 28 → N q = M q) ∧ N 16 1 = M 16 1 ∧ N 28 0 = M 28 0 ∧ N 28 3 = M 28 3 ∧ N 28 4 = M 28 4
def ftq (M N : Mem) : Prop := (∀ q, q ≠ 16 → q < 28 ∨ 34 < q → N q = M q) ∧ N 16 1 = M 16 1
theorem ftq.trans {M N K : Mem} (h : ftq M N) (g : ftq N K) : ftq M K := ⟨fun q h1 h2 => (g.1 q h1 h2).trans (h.1 q h1 h2), g.2.trans h.2⟩
set_option maxHeartbeats 4000000 in
set_option maxRecDepth 100000 in
theorem c_X2_clear_28 (l : Launch) (G : Gx) (M : Mem)  : Con l G yX2_clear cX2_clear 1 none 0 0 [.ref (gA G 28)] M (rV (mset (mset (mset M 28 0 (nI 0)) 28 3 (nI 0)) 28 4 (nI 0))) := by
  refine Con.ofV [some (.ref (gA G 28))] RX2 (by decide) rfl (Nat.le_of_ble_eq_true rfl) rfl ?_
  intro κ hl hG hk0 hn0
  subst hl hG
  have hcs : κ.k ≤ 0 ∧ κ.n ≤ 0 := ⟨Nat.le_of_eq hk0, Nat.le_of_eq hn0⟩
  refine r_aload_n (pc := 0) dX2_clear_0 rfl ?_
  refine r_iconst (v := nI 0) (pc := 1) dX2_clear_1 (by decide) ?_
  refine pf_X2_39 (pc := 2) dX2_clear_2 rfl ?_
  refine r_aload_n (pc := 5) dX2_clear_5 rfl ?_
  refine r_iconst (v := nI 0) (pc := 6) dX2_clear_6 (by decide) ?_
  refine pf_X2_43 (pc := 7) dX2_clear_7 rfl ?_
  refine r_aload_n (pc := 10) dX2_clear_10 rfl ?_
  refine r_iconst (v := nI 0) (pc := 11) dX2_clear_11 (by decide) ?_
  refine pf_X2_46 (pc := 12) dX2_clear_12 rfl ?_
  exact r_vret (pc := 15) dX2_clear_15 rfl ⟨rfl, rfl⟩
set_option maxHeartbeats 4000000 in
set_option maxRecDepth 100000 in
theorem c_X2_addOne_28 (l : Launch) (G : Gx) (M : Mem) (s l0 w g : Int32) (c : Nat) (hc : M 28 0 = nI c) (hc6 : c < 6) : Con l G yX2_addOne cX2_addOne 5 none 0 0 [.ref (gA G 28), .int s, .int l0, .int w, .int g] M (rV (adM M c s l0 w g)) := by
  refine Con.ofV [some (.ref (gA G 28)), some (.int s), some (.int l0), some (.int w), some (.int g)] RX2 (by decide) rfl (Nat.le_of_ble_eq_true rfl) rfl ?_
  intro κ hl hG hk0 hn0
  subst hl hG
  have hcs : κ.k ≤ 0 ∧ κ.n ≤ 0 := ⟨Nat.le_of_eq hk0, Nat.le_of_eq hn0⟩
  refine r_aload_n (pc := 0) dX2_addOne_0 rfl ?_
  refine gf_X2_39 (pc := 1) dX2_addOne_1 rfl ?_
  refine r_is (nI c) (hc) ?_
  refine r_bipush (v := nI 6) (pc := 4) dX2_addOne_4 (by decide) ?_
  refine r_icmp_lt (tgt := 10) (pc := 6) dX2_addOne_6 (by decide) (fun h6 => ?_) (fun h6 => ?_)
  · refine r_aload_n (pc := 10) dX2_addOne_10 rfl ?_
    refine gf_X2_9 (pc := 11) dX2_addOne_11 rfl ?_
    refine r_aload_n (pc := 14) dX2_addOne_14 rfl ?_
    refine gf_X2_39 (pc := 15) dX2_addOne_15 rfl ?_
    refine r_is (nI c) (hc) ?_
    refine r_iload_n (pc := 18) dX2_addOne_18 rfl ?_
    refine r_iast (pc := 19) dX2_addOne_19 rfl (show _ < 6 by omega) ?_
    refine r_aload_n (pc := 20) dX2_addOne_20 rfl ?_
    refine gf_X2_15 (pc := 21) dX2_addOne_21 rfl ?_
    refine r_aload_n (pc := 24) dX2_addOne_24 rfl ?_
    refine gf_X2_39 (pc := 25) dX2_addOne_25 rfl ?_
    refine r_is (nI c) (hc) ?_
    refine r_iload_n (pc := 28) dX2_addOne_28 rfl ?_
    refine r_iast (pc := 29) dX2_addOne_29 rfl (show _ < 6 by omega) ?_
    refine r_aload_n (pc := 30) dX2_addOne_30 rfl ?_
    refine gf_X2_18 (pc := 31) dX2_addOne_31 rfl ?_
    refine r_aload_n (pc := 34) dX2_addOne_34 rfl ?_
    refine gf_X2_39 (pc := 35) dX2_addOne_35 rfl ?_
    refine r_is (nI c) (hc) ?_
    refine r_iconst (v := nI 0) (pc := 38) dX2_addOne_38 (by decide) ?_
    refine r_iast (pc := 39) dX2_addOne_39 rfl (show _ < 6 by omega) ?_
    refine r_aload_n (pc := 40) dX2_addOne_40 rfl ?_
    refine gf_X2_21 (pc := 41) dX2_addOne_41 rfl ?_
    refine r_aload_n (pc := 44) dX2_addOne_44 rfl ?_
    refine gf_X2_39 (pc := 45) dX2_addOne_45 rfl ?_
    refine r_is (nI c) (hc) ?_
    refine r_iload_n (pc := 48) dX2_addOne_48 rfl ?_
    refine r_iast (pc := 49) dX2_addOne_49 rfl (show _ < 6 by omega) ?_
    refine r_aload_n (pc := 50) dX2_addOne_50 rfl ?_
    refine gf_X2_24 (pc := 51) dX2_addOne_51 rfl ?_
    refine r_aload_n (pc := 54) dX2_addOne_54 rfl ?_
    refine gf_X2_39 (pc := 55) dX2_addOne_55 rfl ?_
    refine r_is (nI c) (hc) ?_
    refine r_iload (pc := 58) dX2_addOne_58 rfl ?_
    refine r_iast (pc := 60) dX2_addOne_60 rfl (show _ < 6 by omega) ?_
    refine r_aload_n (pc := 61) dX2_addOne_61 rfl ?_
    refine gf_X2_27 (pc := 62) dX2_addOne_62 rfl ?_
    refine r_aload_n (pc := 65) dX2_addOne_65 rfl ?_
    refine gf_X2_39 (pc := 66) dX2_addOne_66 rfl ?_
    refine r_is (nI c) (hc) ?_
    refine r_iconst (v := nI 0) (pc := 69) dX2_addOne_69 (by decide) ?_
    refine r_iast (pc := 70) dX2_addOne_70 rfl (show _ < 6 by omega) ?_
    refine r_aload_n (pc := 71) dX2_addOne_71 rfl ?_
    refine r_dup (pc := 72) dX2_addOne_72 rfl ?_
    refine gf_X2_39 (pc := 73) dX2_addOne_73 rfl ?_
    refine r_is (nI c) (hc) ?_
    refine r_iconst (v := nI 1) (pc := 76) dX2_addOne_76 (by decide) ?_
    first | with_reducible refine r_iaddN (pc := 77) dX2_addOne_77 ?_ | refine r_iadd (pc := 77) dX2_addOne_77 ?_
    refine pf_X2_39 (pc := 78) dX2_addOne_78 rfl ?_
    exact r_vret (pc := 81) dX2_addOne_81 rfl ⟨rfl, rfl⟩
  · exact absurd (nI_lt hc6 (by omega)) h6
set_option maxHeartbeats 4000000 in
set_option maxRecDepth 100000 in
theorem c_X4_readLaw (l : Launch) (G : Gx) (M : Mem) (T : Nat → Int32) (hT : M 17 = T) (b : Nat) (hb : M 16 1 = nI b) (hp : M 16 2 = nI 0) (hf : M 16 3 = nI 0) (hb120 : b ≤ 120) : Con l G yX4_readLaw cX4_readLaw 2 none 2 47 [.ref (gA G 16), .ref (gA G 28)] M (qV (fun N5 => ftp M N5 ∧ (∀ pl w, lwO T b = .inl (pl, w) → N5 16 2 = nI pl ∧ N5 16 3 = nI w) ∧ (∀ w g p2, lwO T b = .inr ((w, g), p2) → N5 16 2 = nI p2 ∧ N5 16 3 = nI 0 ∧ N5 28 1 = nI w ∧ N5 28 2 = nI g))) := by
  refine Con.ofV [some (.ref (gA G 16)), some (.ref (gA G 28))] RX4 (by decide) rfl (Nat.le_of_ble_eq_true rfl) rfl ?_
  intro κ hl hG hk0 hn0
  subst hl hG
  have hcs : κ.k ≤ 0 ∧ κ.n ≤ 0 := ⟨Nat.le_of_eq hk0, Nat.le_of_eq hn0⟩
  have i1 : (tsO T b 0 0 109).1 ≤ b := tsO_le (Nat.zero_le _)
  have j1 : (tsO T b 0 0 109).2 ≤ 3 := tsO_3 (by omega)
  have i2 : (tnO T b (tsO T b 0 0 109).1 (tsO T b 0 0 109).2 0 5).2.1 ≤ b := tnO_le i1
  have j2 : (tnO T b (tsO T b 0 0 109).1 (tsO T b 0 0 109).2 0 5).2.2 ≤ 3 := tnO_3 j1
  have i3 : (tsO T b (tnO T b (tsO T b 0 0 109).1 (tsO T b 0 0 109).2 0 5).2.1 (tnO T b (tsO T b 0 0 109).1 (tsO T b 0 0 109).2 0 5).2.2 44).1 ≤ b := tsO_le i2
  have j3 : (tsO T b (tnO T b (tsO T b 0 0 109).1 (tsO T b 0 0 109).2 0 5).2.1 (tnO T b (tsO T b 0 0 109).1 (tsO T b 0 0 109).2 0 5).2.2 44).2 ≤ 3 := tsO_3 j2
  have i4 : (tnO T b (tsO T b (tnO T b (tsO T b 0 0 109).1 (tsO T b 0 0 109).2 0 5).2.1 (tnO T b (tsO T b 0 0 109).1 (tsO T b 0 0 109).2 0 5).2.2 44).1 (tsO T b (tnO T b (tsO T b 0 0 109).1 (tsO T b 0 0 109).2 0 5).2.1 (tnO T b (tsO T b 0 0 109).1 (tsO T b 0 0 109).2 0 5).2.2 44).2 1 9).2.1 ≤ b := tnO_le i3
  have j4 : (tnO T b (tsO T b (tnO T b (tsO T b 0 0 109).1 (tsO T b 0 0 109).2 0 5).2.1 (tnO T b (tsO T b 0 0 109).1 (tsO T b 0 0 109).2 0 5).2.2 44).1 (tsO T b (tnO T b (tsO T b 0 0 109).1 (tsO T b 0 0 109).2 0 5).2.1 (tnO T b (tsO T b 0 0 109).1 (tsO T b 0 0 109).2 0 5).2.2 44).2 1 9).2.2 ≤ 3 := tnO_3 j3
  refine r_aload_n (pc := 0) dX4_readLaw_0 rfl ?_
  refine r_bipush (v := nI 109) (pc := 1) dX4_readLaw_1 (by decide) ?_
  refine iv_X4_37 (c_X4_takeSign _ _ _ 109 T (by exact hT) b 0 0 (by exact hb) (by exact hp) (by exact hf) (Nat.zero_le _) hb120 (by omega)) (pc := 3) dX4_readLaw_3 rfl ⟨Nat.le_of_ble_eq_true rfl, Nat.le_of_ble_eq_true rfl⟩ (Nat.le_of_ble_eq_true rfl) hcs (kV ?_)
  refine r_aload_n (pc := 6) dX4_readLaw_6 rfl ?_
  refine r_aload_n (pc := 7) dX4_readLaw_7 rfl ?_
  refine r_iconst (v := nI 0) (pc := 8) dX4_readLaw_8 (by decide) ?_
  refine r_iconst (v := nI 5) (pc := 9) dX4_readLaw_9 (by decide) ?_
  refine iv_X4_41 (c_X4_takeNumber _ _ _ 0 5 (by omega) (by omega) T (by exact hT) b (tsO T b 0 0 109).1 (tsO T b 0 0 109).2 (by exact hb) (by rfl) (by rfl) i1 hb120 j1) (pc := 10) dX4_readLaw_10 rfl ⟨Nat.le_of_ble_eq_true rfl, Nat.le_of_ble_eq_true rfl⟩ (Nat.le_of_ble_eq_true rfl) hcs (kI ?_)
  refine pf_X4_45 (pc := 13) dX4_readLaw_13 rfl ?_
  refine r_aload_n (pc := 16) dX4_readLaw_16 rfl ?_
  refine r_bipush (v := nI 44) (pc := 17) dX4_readLaw_17 (by decide) ?_
  refine iv_X4_37 (c_X4_takeSign _ _ _ 44 T (by exact hT) b (tnO T b (tsO T b 0 0 109).1 (tsO T b 0 0 109).2 0 5).2.1 (tnO T b (tsO T b 0 0 109).1 (tsO T b 0 0 109).2 0 5).2.2 (by exact hb) (by rfl) (by rfl) i2 hb120 j2) (pc := 19) dX4_readLaw_19 rfl ⟨Nat.le_of_ble_eq_true rfl, Nat.le_of_ble_eq_true rfl⟩ (Nat.le_of_ble_eq_true rfl) hcs (kV ?_)
  refine r_aload_n (pc := 22) dX4_readLaw_22 rfl ?_
  refine r_aload_n (pc := 23) dX4_readLaw_23 rfl ?_
  refine r_iconst (v := nI 1) (pc := 24) dX4_readLaw_24 (by decide) ?_
  refine r_bipush (v := nI 9) (pc := 25) dX4_readLaw_25 (by decide) ?_
  refine iv_X4_41 (c_X4_takeNumber _ _ _ 1 9 (by omega) (by omega) T (by exact hT) b (tsO T b (tnO T b (tsO T b 0 0 109).1 (tsO T b 0 0 109).2 0 5).2.1 (tnO T b (tsO T b 0 0 109).1 (tsO T b 0 0 109).2 0 5).2.2 44).1 (tsO T b (tnO T b (tsO T b 0 0 109).1 (tsO T b 0 0 109).2 0 5).2.1 (tnO T b (tsO T b 0 0 109).1 (tsO T b 0 0 109).2 0 5).2.2 44).2 (by exact hb) (by rfl) (by rfl) i3 hb120 j3) (pc := 27) dX4_readLaw_27 rfl ⟨Nat.le_of_ble_eq_true rfl, Nat.le_of_ble_eq_true rfl⟩ (Nat.le_of_ble_eq_true rfl) hcs (kI ?_)
  refine pf_X4_48 (pc := 30) dX4_readLaw_30 rfl ?_
  refine r_aload_n (pc := 33) dX4_readLaw_33 rfl ?_
  refine r_bipush (v := nI 59) (pc := 34) dX4_readLaw_34 (by decide) ?_
  refine iv_X4_37 (c_X4_takeSign _ _ _ 59 T (by exact hT) b (tnO T b (tsO T b (tnO T b (tsO T b 0 0 109).1 (tsO T b 0 0 109).2 0 5).2.1 (tnO T b (tsO T b 0 0 109).1 (tsO T b 0 0 109).2 0 5).2.2 44).1 (tsO T b (tnO T b (tsO T b 0 0 109).1 (tsO T b 0 0 109).2 0 5).2.1 (tnO T b (tsO T b 0 0 109).1 (tsO T b 0 0 109).2 0 5).2.2 44).2 1 9).2.1 (tnO T b (tsO T b (tnO T b (tsO T b 0 0 109).1 (tsO T b 0 0 109).2 0 5).2.1 (tnO T b (tsO T b 0 0 109).1 (tsO T b 0 0 109).2 0 5).2.2 44).1 (tsO T b (tnO T b (tsO T b 0 0 109).1 (tsO T b 0 0 109).2 0 5).2.1 (tnO T b (tsO T b 0 0 109).1 (tsO T b 0 0 109).2 0 5).2.2 44).2 1 9).2.2 (by exact hb) (by rfl) (by rfl) i4 hb120 j4) (pc := 36) dX4_readLaw_36 rfl ⟨Nat.le_of_ble_eq_true rfl, Nat.le_of_ble_eq_true rfl⟩ (Nat.le_of_ble_eq_true rfl) hcs (kV ?_)
  exact r_vret (pc := 39) dX4_readLaw_39 rfl ⟨rfl, ⟨fun q h1 h2 => by unfold tpM; simp only [mset_ne _ _ _ h1, mset_ne _ _ _ h2], rfl, rfl, rfl, rfl⟩, fun pl w z => (by
        have e := (lw_l z).1
        refine ⟨?_, ?_⟩
        · show nI (ns T b 1 9 59 (ns T b 0 5 44 (tsO T b 0 0 109)).2).2.1 = nI pl
          rw [e]
        · show nI (ns T b 1 9 59 (ns T b 0 5 44 (tsO T b 0 0 109)).2).2.2 = nI w
          rw [e]), fun w g p2 z => (by
        obtain ⟨e1, e2, -⟩ := lw_r z
        refine ⟨?_, ?_, ?_, ?_⟩
        · show nI (ns T b 1 9 59 (ns T b 0 5 44 (tsO T b 0 0 109)).2).2.1 = nI p2
          rw [e2]
        · show nI (ns T b 1 9 59 (ns T b 0 5 44 (tsO T b 0 0 109)).2).2.2 = nI 0
          rw [e2]
        · show nI (ns T b 0 5 44 (tsO T b 0 0 109)).1 = nI w
          rw [e1]
        · show nI (ns T b 1 9 59 (ns T b 0 5 44 (tsO T b 0 0 109)).2).1 = nI g
          rw [e2])⟩
set_option maxHeartbeats 4000000 in
set_option maxRecDepth 100000 in
theorem c_X4_readOneChair (l : Launch) (G : Gx) (M : Mem) (T : Nat → Int32) (hT : M 17 = T) (b p c : Nat) (hb : M 16 1 = nI b) (hp : M 16 2 = nI p) (hf : M 16 3 = nI 0) (hpb : p ≤ b) (hb120 : b ≤ 120) (hc : M 28 0 = nI c) (hc6 : c ≤ 6) (hby : ∀ i, i < b → ∃ x, x < 256 ∧ T i = nI x) : Con l G yX4_readOneChair cX4_readOneChair 6 none 5 130 [.ref (gA G 16), .ref (gA G 28)] M (qV (fun N5 => ftq M N5 ∧ (∀ pl w, chO T b p c = .inl (pl, w) → w ≠ 0 ∧ w ≤ 3 ∧ N5 16 2 = nI pl ∧ N5 16 3 = nI w) ∧ (∀ d p2, chO T b p c = .inr (d, p2) → N5 16 2 = nI p2 ∧ N5 16 3 = nI 0 ∧ (∀ R, ms 28 c R M → zz R → ms 28 (c + 1) (chR R c d) N5)))) := by
  refine Con.ofV [some (.ref (gA G 16)), some (.ref (gA G 28)), none, none, none, none] RX4 (by decide) rfl (Nat.le_of_ble_eq_true rfl) rfl ?_
  intro κ hl hG hk0 hn0
  subst hl hG
  have hcs : κ.k ≤ 0 ∧ κ.n ≤ 0 := ⟨Nat.le_of_eq hk0, Nat.le_of_eq hn0⟩
  have hsl := srt_le T b p
  have J32 : ∀ u : Int32, u = nI (srt T b p) → V κ cX4_readOneChair RX4 6 none (rmx 5 130) (QM κ (qV (fun N5 => ftq M N5 ∧ (∀ pl w, chO T b p c = .inl (pl, w) → w ≠ 0 ∧ w ≤ 3 ∧ N5 16 2 = nI pl ∧ N5 16 3 = nI w) ∧ (∀ d p2, chO T b p c = .inr (d, p2) → N5 16 2 = nI p2 ∧ N5 16 3 = nI 0 ∧ (∀ R, ms 28 c R M → zz R → ms 28 (c + 1) (chR R c d) N5))))) M 32 [some (.ref (gA κ.G 16)), some (.ref (gA κ.G 28)), none, none, none, none] [.int u] := by
    rintro _ rfl
    refine r_st_n [_, _, _, _, _, _] (pc := 32) dX4_readOneChair_32 (by decide) rfl rfl ?_
    refine r_iload_n (pc := 33) dX4_readOneChair_33 rfl ?_
    refine r_if_ne (tgt := 43) (pc := 34) dX4_readOneChair_34 (by decide) (fun h34 => ?_) (fun h34 => ?_)
    · have hs : srt T b p ≠ 0 := fun z => h34 (by rw [z]; rfl)
      obtain ⟨sc, -, -, hss⟩ := srt_s hs
      have hss1 := hss.1
      refine r_aload_n (pc := 43) dX4_readOneChair_43 rfl ?_
      refine gf_X4_59 (pc := 44) dX4_readOneChair_44 rfl ?_
      refine r_is (nI c) (hc) ?_
      refine r_bipush (v := nI 6) (pc := 47) dX4_readOneChair_47 (by decide) ?_
      refine r_icmp_lt (tgt := 58) (pc := 49) dX4_readOneChair_49 (by decide) (fun h49 => ?_) (fun h49 => ?_)
      · have hc7 : c < 6 := (nI_ltI (by omega) (by omega)).mp h49
        have i1 : (tnO T b (p + 1) 0 0 60).2.1 ≤ b := tnO_le hss1
        have j1 : (tnO T b (p + 1) 0 0 60).2.2 ≤ 3 := tnO_3 (by omega)
        have i2 : (tsO T b (tnO T b (p + 1) 0 0 60).2.1 (tnO T b (p + 1) 0 0 60).2.2 44).1 ≤ b := tsO_le i1
        have j2 : (tsO T b (tnO T b (p + 1) 0 0 60).2.1 (tnO T b (p + 1) 0 0 60).2.2 44).2 ≤ 3 := tsO_3 j1
        have i3 : (tnO T b (tsO T b (tnO T b (p + 1) 0 0 60).2.1 (tnO T b (p + 1) 0 0 60).2.2 44).1 (tsO T b (tnO T b (p + 1) 0 0 60).2.1 (tnO T b (p + 1) 0 0 60).2.2 44).2 0 9).2.1 ≤ b := tnO_le i2
        have j3 : (tnO T b (tsO T b (tnO T b (p + 1) 0 0 60).2.1 (tnO T b (p + 1) 0 0 60).2.2 44).1 (tsO T b (tnO T b (p + 1) 0 0 60).2.1 (tnO T b (p + 1) 0 0 60).2.2 44).2 0 9).2.2 ≤ 3 := tnO_3 j2
        have i4 : (tsO T b (tnO T b (tsO T b (tnO T b (p + 1) 0 0 60).2.1 (tnO T b (p + 1) 0 0 60).2.2 44).1 (tsO T b (tnO T b (p + 1) 0 0 60).2.1 (tnO T b (p + 1) 0 0 60).2.2 44).2 0 9).2.1 (tnO T b (tsO T b (tnO T b (p + 1) 0 0 60).2.1 (tnO T b (p + 1) 0 0 60).2.2 44).1 (tsO T b (tnO T b (p + 1) 0 0 60).2.1 (tnO T b (p + 1) 0 0 60).2.2 44).2 0 9).2.2 44).1 ≤ b := tsO_le i3
        have j4 : (tsO T b (tnO T b (tsO T b (tnO T b (p + 1) 0 0 60).2.1 (tnO T b (p + 1) 0 0 60).2.2 44).1 (tsO T b (tnO T b (p + 1) 0 0 60).2.1 (tnO T b (p + 1) 0 0 60).2.2 44).2 0 9).2.1 (tnO T b (tsO T b (tnO T b (p + 1) 0 0 60).2.1 (tnO T b (p + 1) 0 0 60).2.2 44).1 (tsO T b (tnO T b (p + 1) 0 0 60).2.1 (tnO T b (p + 1) 0 0 60).2.2 44).2 0 9).2.2 44).2 ≤ 3 := tsO_3 j3
        have i5 : (tnO T b (tsO T b (tnO T b (tsO T b (tnO T b (p + 1) 0 0 60).2.1 (tnO T b (p + 1) 0 0 60).2.2 44).1 (tsO T b (tnO T b (p + 1) 0 0 60).2.1 (tnO T b (p + 1) 0 0 60).2.2 44).2 0 9).2.1 (tnO T b (tsO T b (tnO T b (p + 1) 0 0 60).2.1 (tnO T b (p + 1) 0 0 60).2.2 44).1 (tsO T b (tnO T b (p + 1) 0 0 60).2.1 (tnO T b (p + 1) 0 0 60).2.2 44).2 0 9).2.2 44).1 (tsO T b (tnO T b (tsO T b (tnO T b (p + 1) 0 0 60).2.1 (tnO T b (p + 1) 0 0 60).2.2 44).1 (tsO T b (tnO T b (p + 1) 0 0 60).2.1 (tnO T b (p + 1) 0 0 60).2.2 44).2 0 9).2.1 (tnO T b (tsO T b (tnO T b (p + 1) 0 0 60).2.1 (tnO T b (p + 1) 0 0 60).2.2 44).1 (tsO T b (tnO T b (p + 1) 0 0 60).2.1 (tnO T b (p + 1) 0 0 60).2.2 44).2 0 9).2.2 44).2 0 3).2.1 ≤ b := tnO_le i4
        have j5 : (tnO T b (tsO T b (tnO T b (tsO T b (tnO T b (p + 1) 0 0 60).2.1 (tnO T b (p + 1) 0 0 60).2.2 44).1 (tsO T b (tnO T b (p + 1) 0 0 60).2.1 (tnO T b (p + 1) 0 0 60).2.2 44).2 0 9).2.1 (tnO T b (tsO T b (tnO T b (p + 1) 0 0 60).2.1 (tnO T b (p + 1) 0 0 60).2.2 44).1 (tsO T b (tnO T b (p + 1) 0 0 60).2.1 (tnO T b (p + 1) 0 0 60).2.2 44).2 0 9).2.2 44).1 (tsO T b (tnO T b (tsO T b (tnO T b (p + 1) 0 0 60).2.1 (tnO T b (p + 1) 0 0 60).2.2 44).1 (tsO T b (tnO T b (p + 1) 0 0 60).2.1 (tnO T b (p + 1) 0 0 60).2.2 44).2 0 9).2.1 (tnO T b (tsO T b (tnO T b (p + 1) 0 0 60).2.1 (tnO T b (p + 1) 0 0 60).2.2 44).1 (tsO T b (tnO T b (p + 1) 0 0 60).2.1 (tnO T b (p + 1) 0 0 60).2.2 44).2 0 9).2.2 44).2 0 3).2.2 ≤ 3 := tnO_3 j4
        refine r_aload_n (pc := 58) dX4_readOneChair_58 rfl ?_
        refine r_dup (pc := 59) dX4_readOneChair_59 rfl ?_
        refine gf_X4_19 (pc := 60) dX4_readOneChair_60 rfl ?_
        refine r_is (nI p) (hp) ?_
        refine r_iconst (v := nI 1) (pc := 63) dX4_readOneChair_63 (by decide) ?_
        first | with_reducible refine r_iaddN (pc := 64) dX4_readOneChair_64 ?_ | refine r_iadd (pc := 64) dX4_readOneChair_64 ?_
        refine pf_X4_19 (pc := 65) dX4_readOneChair_65 rfl ?_
        refine r_aload_n (pc := 68) dX4_readOneChair_68 rfl ?_
        refine r_iconst (v := nI 0) (pc := 69) dX4_readOneChair_69 (by decide) ?_
        refine r_bipush (v := nI 60) (pc := 70) dX4_readOneChair_70 (by decide) ?_
        refine iv_X4_41 (c_X4_takeNumber _ _ _ 0 60 (by omega) (by omega) T (by exact hT) b (p + 1) 0 (by exact hb) (by rfl) (by exact hf) hss1 hb120 (by omega)) (pc := 72) dX4_readOneChair_72 rfl ⟨Nat.le_of_ble_eq_true rfl, Nat.le_of_ble_eq_true rfl⟩ (Nat.le_of_ble_eq_true rfl) hcs (kI ?_)
        refine r_st_n [_, _, _, _, _, _] (pc := 75) dX4_readOneChair_75 (by decide) rfl rfl ?_
        refine r_aload_n (pc := 76) dX4_readOneChair_76 rfl ?_
        refine r_bipush (v := nI 44) (pc := 77) dX4_readOneChair_77 (by decide) ?_
        refine iv_X4_37 (c_X4_takeSign _ _ _ 44 T (by exact hT) b (tnO T b (p + 1) 0 0 60).2.1 (tnO T b (p + 1) 0 0 60).2.2 (by exact hb) (by rfl) (by rfl) i1 hb120 j1) (pc := 79) dX4_readOneChair_79 rfl ⟨Nat.le_of_ble_eq_true rfl, Nat.le_of_ble_eq_true rfl⟩ (Nat.le_of_ble_eq_true rfl) hcs (kV ?_)
        refine r_aload_n (pc := 82) dX4_readOneChair_82 rfl ?_
        refine r_iconst (v := nI 0) (pc := 83) dX4_readOneChair_83 (by decide) ?_
        refine r_bipush (v := nI 9) (pc := 84) dX4_readOneChair_84 (by decide) ?_
        refine iv_X4_41 (c_X4_takeNumber _ _ _ 0 9 (by omega) (by omega) T (by exact hT) b (tsO T b (tnO T b (p + 1) 0 0 60).2.1 (tnO T b (p + 1) 0 0 60).2.2 44).1 (tsO T b (tnO T b (p + 1) 0 0 60).2.1 (tnO T b (p + 1) 0 0 60).2.2 44).2 (by exact hb) (by rfl) (by rfl) i2 hb120 j2) (pc := 86) dX4_readOneChair_86 rfl ⟨Nat.le_of_ble_eq_true rfl, Nat.le_of_ble_eq_true rfl⟩ (Nat.le_of_ble_eq_true rfl) hcs (kI ?_)
        refine r_st [_, _, _, _, _, _] (pc := 89) dX4_readOneChair_89 (by decide) rfl rfl ?_
        refine r_aload_n (pc := 91) dX4_readOneChair_91 rfl ?_
        refine r_bipush (v := nI 44) (pc := 92) dX4_readOneChair_92 (by decide) ?_
        refine iv_X4_37 (c_X4_takeSign _ _ _ 44 T (by exact hT) b (tnO T b (tsO T b (tnO T b (p + 1) 0 0 60).2.1 (tnO T b (p + 1) 0 0 60).2.2 44).1 (tsO T b (tnO T b (p + 1) 0 0 60).2.1 (tnO T b (p + 1) 0 0 60).2.2 44).2 0 9).2.1 (tnO T b (tsO T b (tnO T b (p + 1) 0 0 60).2.1 (tnO T b (p + 1) 0 0 60).2.2 44).1 (tsO T b (tnO T b (p + 1) 0 0 60).2.1 (tnO T b (p + 1) 0 0 60).2.2 44).2 0 9).2.2 (by exact hb) (by rfl) (by rfl) i3 hb120 j3) (pc := 94) dX4_readOneChair_94 rfl ⟨Nat.le_of_ble_eq_true rfl, Nat.le_of_ble_eq_true rfl⟩ (Nat.le_of_ble_eq_true rfl) hcs (kV ?_)
        refine r_aload_n (pc := 97) dX4_readOneChair_97 rfl ?_
        refine r_iconst (v := nI 0) (pc := 98) dX4_readOneChair_98 (by decide) ?_
        refine r_iconst (v := nI 3) (pc := 99) dX4_readOneChair_99 (by decide) ?_
        refine iv_X4_41 (c_X4_takeNumber _ _ _ 0 3 (by omega) (by omega) T (by exact hT) b (tsO T b (tnO T b (tsO T b (tnO T b (p + 1) 0 0 60).2.1 (tnO T b (p + 1) 0 0 60).2.2 44).1 (tsO T b (tnO T b (p + 1) 0 0 60).2.1 (tnO T b (p + 1) 0 0 60).2.2 44).2 0 9).2.1 (tnO T b (tsO T b (tnO T b (p + 1) 0 0 60).2.1 (tnO T b (p + 1) 0 0 60).2.2 44).1 (tsO T b (tnO T b (p + 1) 0 0 60).2.1 (tnO T b (p + 1) 0 0 60).2.2 44).2 0 9).2.2 44).1 (tsO T b (tnO T b (tsO T b (tnO T b (p + 1) 0 0 60).2.1 (tnO T b (p + 1) 0 0 60).2.2 44).1 (tsO T b (tnO T b (p + 1) 0 0 60).2.1 (tnO T b (p + 1) 0 0 60).2.2 44).2 0 9).2.1 (tnO T b (tsO T b (tnO T b (p + 1) 0 0 60).2.1 (tnO T b (p + 1) 0 0 60).2.2 44).1 (tsO T b (tnO T b (p + 1) 0 0 60).2.1 (tnO T b (p + 1) 0 0 60).2.2 44).2 0 9).2.2 44).2 (by exact hb) (by rfl) (by rfl) i4 hb120 j4) (pc := 100) dX4_readOneChair_100 rfl ⟨Nat.le_of_ble_eq_true rfl, Nat.le_of_ble_eq_true rfl⟩ (Nat.le_of_ble_eq_true rfl) hcs (kI ?_)
        refine r_st [_, _, _, _, _, _] (pc := 103) dX4_readOneChair_103 (by decide) rfl rfl ?_
        refine r_aload_n (pc := 105) dX4_readOneChair_105 rfl ?_
        refine r_bipush (v := nI 59) (pc := 106) dX4_readOneChair_106 (by decide) ?_
        refine iv_X4_37 (c_X4_takeSign _ _ _ 59 T (by exact hT) b (tnO T b (tsO T b (tnO T b (tsO T b (tnO T b (p + 1) 0 0 60).2.1 (tnO T b (p + 1) 0 0 60).2.2 44).1 (tsO T b (tnO T b (p + 1) 0 0 60).2.1 (tnO T b (p + 1) 0 0 60).2.2 44).2 0 9).2.1 (tnO T b (tsO T b (tnO T b (p + 1) 0 0 60).2.1 (tnO T b (p + 1) 0 0 60).2.2 44).1 (tsO T b (tnO T b (p + 1) 0 0 60).2.1 (tnO T b (p + 1) 0 0 60).2.2 44).2 0 9).2.2 44).1 (tsO T b (tnO T b (tsO T b (tnO T b (p + 1) 0 0 60).2.1 (tnO T b (p + 1) 0 0 60).2.2 44).1 (tsO T b (tnO T b (p + 1) 0 0 60).2.1 (tnO T b (p + 1) 0 0 60).2.2 44).2 0 9).2.1 (tnO T b (tsO T b (tnO T b (p + 1) 0 0 60).2.1 (tnO T b (p + 1) 0 0 60).2.2 44).1 (tsO T b (tnO T b (p + 1) 0 0 60).2.1 (tnO T b (p + 1) 0 0 60).2.2 44).2 0 9).2.2 44).2 0 3).2.1 (tnO T b (tsO T b (tnO T b (tsO T b (tnO T b (p + 1) 0 0 60).2.1 (tnO T b (p + 1) 0 0 60).2.2 44).1 (tsO T b (tnO T b (p + 1) 0 0 60).2.1 (tnO T b (p + 1) 0 0 60).2.2 44).2 0 9).2.1 (tnO T b (tsO T b (tnO T b (p + 1) 0 0 60).2.1 (tnO T b (p + 1) 0 0 60).2.2 44).1 (tsO T b (tnO T b (p + 1) 0 0 60).2.1 (tnO T b (p + 1) 0 0 60).2.2 44).2 0 9).2.2 44).1 (tsO T b (tnO T b (tsO T b (tnO T b (p + 1) 0 0 60).2.1 (tnO T b (p + 1) 0 0 60).2.2 44).1 (tsO T b (tnO T b (p + 1) 0 0 60).2.1 (tnO T b (p + 1) 0 0 60).2.2 44).2 0 9).2.1 (tnO T b (tsO T b (tnO T b (p + 1) 0 0 60).2.1 (tnO T b (p + 1) 0 0 60).2.2 44).1 (tsO T b (tnO T b (p + 1) 0 0 60).2.1 (tnO T b (p + 1) 0 0 60).2.2 44).2 0 9).2.2 44).2 0 3).2.2 (by exact hb) (by rfl) (by rfl) i5 hb120 j5) (pc := 108) dX4_readOneChair_108 rfl ⟨Nat.le_of_ble_eq_true rfl, Nat.le_of_ble_eq_true rfl⟩ (Nat.le_of_ble_eq_true rfl) hcs (kV ?_)
        refine r_aload_n (pc := 111) dX4_readOneChair_111 rfl ?_
        refine gf_X4_22 (pc := 112) dX4_readOneChair_112 rfl ?_
        refine r_if_ne (tgt := 128) (pc := 115) dX4_readOneChair_115 (by decide) (fun h115 => ?_) (fun h115 => ?_)
        · have hw : (y3 T b p).2.2 ≠ 0 := fun z => h115 (by show nI (y3 T b p).2.2 = 0; rw [z]; rfl)
          exact r_vret (pc := 128) dX4_readOneChair_128 rfl (by
                first
                  | exact ⟨rfl, ⟨fun q h1 h2 => by unfold tpM; simp only [mset_ne _ _ _ h1], rfl⟩, fun pl w z => (by
                      obtain ⟨e1, e2, e3⟩ := ch_l hs (by omega) z
                      refine ⟨e2, e3, ?_, ?_⟩
                      · show nI (y3 T b p).2.1 = nI pl
                        rw [e1]
                      · show nI (y3 T b p).2.2 = nI w
                        rw [e1]), fun d p2 z => (by
                      have e := (ch_r z).2.2.1
                      rw [e] at hw
                      exact absurd rfl hw)⟩
                  | exact ⟨rfl, ⟨fun q h1 h2 => by unfold adM tpM; rw [mset_ne _ _ _ (by omega), mset_ne _ _ _ (by omega), mset_ne _ _ _ (by omega), mset_ne _ _ _ (by omega), mset_ne _ _ _ (by omega), mset_ne _ _ _ (by omega), mset_ne _ _ _ (by omega)]; simp only [mset_ne _ _ _ h1], rfl⟩, fun pl w z => (by
                      obtain ⟨e1, e2, e3⟩ := ch_l hs (by omega) z
                      rw [e1] at hw
                      exact absurd hw e2), fun d p2 z => (by
                      obtain ⟨-, -, e1, e2, -⟩ := ch_r z
                      refine ⟨?_, ?_, fun R hm hz => ?_⟩
                      · show nI (y3 T b p).2.1 = nI p2
                        rw [e1]
                      · show nI (y3 T b p).2.2 = nI 0
                        rw [e1]
                      · have k := adM_ms (hm.fr (N := tpM (tpM (tpM (tpM (tpM (tpM (mset M 16 2 (nI (p + 1))) (tnO T b (p + 1) 0 0 60).2) (tsO T b (tnO T b (p + 1) 0 0 60).2.1 (tnO T b (p + 1) 0 0 60).2.2 44)) (tnO T b (tsO T b (tnO T b (p + 1) 0 0 60).2.1 (tnO T b (p + 1) 0 0 60).2.2 44).1 (tsO T b (tnO T b (p + 1) 0 0 60).2.1 (tnO T b (p + 1) 0 0 60).2.2 44).2 0 9).2) (tsO T b (tnO T b (tsO T b (tnO T b (p + 1) 0 0 60).2.1 (tnO T b (p + 1) 0 0 60).2.2 44).1 (tsO T b (tnO T b (p + 1) 0 0 60).2.1 (tnO T b (p + 1) 0 0 60).2.2 44).2 0 9).2.1 (tnO T b (tsO T b (tnO T b (p + 1) 0 0 60).2.1 (tnO T b (p + 1) 0 0 60).2.2 44).1 (tsO T b (tnO T b (p + 1) 0 0 60).2.1 (tnO T b (p + 1) 0 0 60).2.2 44).2 0 9).2.2 44)) (tnO T b (tsO T b (tnO T b (tsO T b (tnO T b (p + 1) 0 0 60).2.1 (tnO T b (p + 1) 0 0 60).2.2 44).1 (tsO T b (tnO T b (p + 1) 0 0 60).2.1 (tnO T b (p + 1) 0 0 60).2.2 44).2 0 9).2.1 (tnO T b (tsO T b (tnO T b (p + 1) 0 0 60).2.1 (tnO T b (p + 1) 0 0 60).2.2 44).1 (tsO T b (tnO T b (p + 1) 0 0 60).2.1 (tnO T b (p + 1) 0 0 60).2.2 44).2 0 9).2.2 44).1 (tsO T b (tnO T b (tsO T b (tnO T b (p + 1) 0 0 60).2.1 (tnO T b (p + 1) 0 0 60).2.2 44).1 (tsO T b (tnO T b (p + 1) 0 0 60).2.1 (tnO T b (p + 1) 0 0 60).2.2 44).2 0 9).2.1 (tnO T b (tsO T b (tnO T b (p + 1) 0 0 60).2.1 (tnO T b (p + 1) 0 0 60).2.2 44).1 (tsO T b (tnO T b (p + 1) 0 0 60).2.1 (tnO T b (p + 1) 0 0 60).2.2 44).2 0 9).2.2 44).2 0 3).2) (tsO T b (tnO T b (tsO T b (tnO T b (tsO T b (tnO T b (p + 1) 0 0 60).2.1 (tnO T b (p + 1) 0 0 60).2.2 44).1 (tsO T b (tnO T b (p + 1) 0 0 60).2.1 (tnO T b (p + 1) 0 0 60).2.2 44).2 0 9).2.1 (tnO T b (tsO T b (tnO T b (p + 1) 0 0 60).2.1 (tnO T b (p + 1) 0 0 60).2.2 44).1 (tsO T b (tnO T b (p + 1) 0 0 60).2.1 (tnO T b (p + 1) 0 0 60).2.2 44).2 0 9).2.2 44).1 (tsO T b (tnO T b (tsO T b (tnO T b (p + 1) 0 0 60).2.1 (tnO T b (p + 1) 0 0 60).2.2 44).1 (tsO T b (tnO T b (p + 1) 0 0 60).2.1 (tnO T b (p + 1) 0 0 60).2.2 44).2 0 9).2.1 (tnO T b (tsO T b (tnO T b (p + 1) 0 0 60).2.1 (tnO T b (p + 1) 0 0 60).2.2 44).1 (tsO T b (tnO T b (p + 1) 0 0 60).2.1 (tnO T b (p + 1) 0 0 60).2.2 44).2 0 9).2.2 44).2 0 3).2.1 (tnO T b (tsO T b (tnO T b (tsO T b (tnO T b (p + 1) 0 0 60).2.1 (tnO T b (p + 1) 0 0 60).2.2 44).1 (tsO T b (tnO T b (p + 1) 0 0 60).2.1 (tnO T b (p + 1) 0 0 60).2.2 44).2 0 9).2.1 (tnO T b (tsO T b (tnO T b (p + 1) 0 0 60).2.1 (tnO T b (p + 1) 0 0 60).2.2 44).1 (tsO T b (tnO T b (p + 1) 0 0 60).2.1 (tnO T b (p + 1) 0 0 60).2.2 44).2 0 9).2.2 44).1 (tsO T b (tnO T b (tsO T b (tnO T b (p + 1) 0 0 60).2.1 (tnO T b (p + 1) 0 0 60).2.2 44).1 (tsO T b (tnO T b (p + 1) 0 0 60).2.1 (tnO T b (p + 1) 0 0 60).2.2 44).2 0 9).2.1 (tnO T b (tsO T b (tnO T b (p + 1) 0 0 60).2.1 (tnO T b (p + 1) 0 0 60).2.2 44).1 (tsO T b (tnO T b (p + 1) 0 0 60).2.1 (tnO T b (p + 1) 0 0 60).2.2 44).2 0 9).2.2 44).2 0 3).2.2 59)) (fun q h1 h2 => by unfold tpM; simp only [mset_ne _ _ _ (show q ≠ 16 by omega)])) hz hc7 d
                        rw [e2] at k ⊢
                        exact k)⟩)
        · have j6 : (y3 T b p).2.2 ≤ 3 := tsO_3 j5
          have hw : (y3 T b p).2.2 = 0 := (nI_eq (by omega) (by omega)).mp ((show nI (y3 T b p).2.2 = 0 from h115).trans nI_0.symm)
          refine r_aload_n (pc := 118) dX4_readOneChair_118 rfl ?_
          refine r_iload_n (pc := 119) dX4_readOneChair_119 rfl ?_
          refine r_iload_n (pc := 120) dX4_readOneChair_120 rfl ?_
          refine r_iload (pc := 121) dX4_readOneChair_121 rfl ?_
          refine r_iload (pc := 123) dX4_readOneChair_123 rfl ?_
          refine iv_X4_60 (c_X2_addOne_28 _ _ _ _ _ _ _ c (by exact hc) hc7) (pc := 125) dX4_readOneChair_125 rfl ⟨Nat.le_of_ble_eq_true rfl, Nat.le_of_ble_eq_true rfl⟩ (Nat.le_of_ble_eq_true rfl) hcs (kV ?_)
          exact r_vret (pc := 128) dX4_readOneChair_128 rfl (by
                first
                  | exact ⟨rfl, ⟨fun q h1 h2 => by unfold tpM; simp only [mset_ne _ _ _ h1], rfl⟩, fun pl w z => (by
                      obtain ⟨e1, e2, e3⟩ := ch_l hs (by omega) z
                      refine ⟨e2, e3, ?_, ?_⟩
                      · show nI (y3 T b p).2.1 = nI pl
                        rw [e1]
                      · show nI (y3 T b p).2.2 = nI w
                        rw [e1]), fun d p2 z => (by
                      have e := (ch_r z).2.2.1
                      rw [e] at hw
                      exact absurd rfl hw)⟩
                  | exact ⟨rfl, ⟨fun q h1 h2 => by unfold adM tpM; rw [mset_ne _ _ _ (by omega), mset_ne _ _ _ (by omega), mset_ne _ _ _ (by omega), mset_ne _ _ _ (by omega), mset_ne _ _ _ (by omega), mset_ne _ _ _ (by omega), mset_ne _ _ _ (by omega)]; simp only [mset_ne _ _ _ h1], rfl⟩, fun pl w z => (by
                      obtain ⟨e1, e2, e3⟩ := ch_l hs (by omega) z
                      rw [e1] at hw
                      exact absurd hw e2), fun d p2 z => (by
                      obtain ⟨-, -, e1, e2, -⟩ := ch_r z
                      refine ⟨?_, ?_, fun R hm hz => ?_⟩
                      · show nI (y3 T b p).2.1 = nI p2
                        rw [e1]
                      · show nI (y3 T b p).2.2 = nI 0
                        rw [e1]
                      · have k := adM_ms (hm.fr (N := tpM (tpM (tpM (tpM (tpM (tpM (mset M 16 2 (nI (p + 1))) (tnO T b (p + 1) 0 0 60).2) (tsO T b (tnO T b (p + 1) 0 0 60).2.1 (tnO T b (p + 1) 0 0 60).2.2 44)) (tnO T b (tsO T b (tnO T b (p + 1) 0 0 60).2.1 (tnO T b (p + 1) 0 0 60).2.2 44).1 (tsO T b (tnO T b (p + 1) 0 0 60).2.1 (tnO T b (p + 1) 0 0 60).2.2 44).2 0 9).2) (tsO T b (tnO T b (tsO T b (tnO T b (p + 1) 0 0 60).2.1 (tnO T b (p + 1) 0 0 60).2.2 44).1 (tsO T b (tnO T b (p + 1) 0 0 60).2.1 (tnO T b (p + 1) 0 0 60).2.2 44).2 0 9).2.1 (tnO T b (tsO T b (tnO T b (p + 1) 0 0 60).2.1 (tnO T b (p + 1) 0 0 60).2.2 44).1 (tsO T b (tnO T b (p + 1) 0 0 60).2.1 (tnO T b (p + 1) 0 0 60).2.2 44).2 0 9).2.2 44)) (tnO T b (tsO T b (tnO T b (tsO T b (tnO T b (p + 1) 0 0 60).2.1 (tnO T b (p + 1) 0 0 60).2.2 44).1 (tsO T b (tnO T b (p + 1) 0 0 60).2.1 (tnO T b (p + 1) 0 0 60).2.2 44).2 0 9).2.1 (tnO T b (tsO T b (tnO T b (p + 1) 0 0 60).2.1 (tnO T b (p + 1) 0 0 60).2.2 44).1 (tsO T b (tnO T b (p + 1) 0 0 60).2.1 (tnO T b (p + 1) 0 0 60).2.2 44).2 0 9).2.2 44).1 (tsO T b (tnO T b (tsO T b (tnO T b (p + 1) 0 0 60).2.1 (tnO T b (p + 1) 0 0 60).2.2 44).1 (tsO T b (tnO T b (p + 1) 0 0 60).2.1 (tnO T b (p + 1) 0 0 60).2.2 44).2 0 9).2.1 (tnO T b (tsO T b (tnO T b (p + 1) 0 0 60).2.1 (tnO T b (p + 1) 0 0 60).2.2 44).1 (tsO T b (tnO T b (p + 1) 0 0 60).2.1 (tnO T b (p + 1) 0 0 60).2.2 44).2 0 9).2.2 44).2 0 3).2) (tsO T b (tnO T b (tsO T b (tnO T b (tsO T b (tnO T b (p + 1) 0 0 60).2.1 (tnO T b (p + 1) 0 0 60).2.2 44).1 (tsO T b (tnO T b (p + 1) 0 0 60).2.1 (tnO T b (p + 1) 0 0 60).2.2 44).2 0 9).2.1 (tnO T b (tsO T b (tnO T b (p + 1) 0 0 60).2.1 (tnO T b (p + 1) 0 0 60).2.2 44).1 (tsO T b (tnO T b (p + 1) 0 0 60).2.1 (tnO T b (p + 1) 0 0 60).2.2 44).2 0 9).2.2 44).1 (tsO T b (tnO T b (tsO T b (tnO T b (p + 1) 0 0 60).2.1 (tnO T b (p + 1) 0 0 60).2.2 44).1 (tsO T b (tnO T b (p + 1) 0 0 60).2.1 (tnO T b (p + 1) 0 0 60).2.2 44).2 0 9).2.1 (tnO T b (tsO T b (tnO T b (p + 1) 0 0 60).2.1 (tnO T b (p + 1) 0 0 60).2.2 44).1 (tsO T b (tnO T b (p + 1) 0 0 60).2.1 (tnO T b (p + 1) 0 0 60).2.2 44).2 0 9).2.2 44).2 0 3).2.1 (tnO T b (tsO T b (tnO T b (tsO T b (tnO T b (p + 1) 0 0 60).2.1 (tnO T b (p + 1) 0 0 60).2.2 44).1 (tsO T b (tnO T b (p + 1) 0 0 60).2.1 (tnO T b (p + 1) 0 0 60).2.2 44).2 0 9).2.1 (tnO T b (tsO T b (tnO T b (p + 1) 0 0 60).2.1 (tnO T b (p + 1) 0 0 60).2.2 44).1 (tsO T b (tnO T b (p + 1) 0 0 60).2.1 (tnO T b (p + 1) 0 0 60).2.2 44).2 0 9).2.2 44).1 (tsO T b (tnO T b (tsO T b (tnO T b (p + 1) 0 0 60).2.1 (tnO T b (p + 1) 0 0 60).2.2 44).1 (tsO T b (tnO T b (p + 1) 0 0 60).2.1 (tnO T b (p + 1) 0 0 60).2.2 44).2 0 9).2.1 (tnO T b (tsO T b (tnO T b (p + 1) 0 0 60).2.1 (tnO T b (p + 1) 0 0 60).2.2 44).1 (tsO T b (tnO T b (p + 1) 0 0 60).2.1 (tnO T b (p + 1) 0 0 60).2.2 44).2 0 9).2.2 44).2 0 3).2.2 59)) (fun q h1 h2 => by unfold tpM; simp only [mset_ne _ _ _ (show q ≠ 16 by omega)])) hz hc7 d
                        rw [e2] at k ⊢
                        exact k)⟩)
      · have hc7 : c = 6 := Classical.byContradiction (fun z => h49 (nI_lt (by omega) (by omega)))
        have e9 : chO T b p c = .inl (p, 3) := by rw [chO, if_neg hs, if_pos hc7]
        refine r_aload_n (pc := 52) dX4_readOneChair_52 rfl ?_
        refine r_iconst (v := nI 3) (pc := 53) dX4_readOneChair_53 (by decide) ?_
        refine pf_X4_22 (pc := 54) dX4_readOneChair_54 rfl ?_
        exact r_vret (pc := 57) dX4_readOneChair_57 rfl ⟨rfl, ⟨fun q h1 h2 => mset_ne _ _ _ h1, rfl⟩, fun pl w z => (by rw [e9] at z; cases z; exact ⟨by decide, by decide, hp, rfl⟩), fun d p2 z => (by rw [e9] at z; cases z)⟩
    · have hs : srt T b p = 0 := (nI_eq (by omega) (by omega)).mp (h34.trans nI_0.symm)
      have e9 : chO T b p c = .inl (p, 1) := if_pos hs
      refine r_aload_n (pc := 37) dX4_readOneChair_37 rfl ?_
      refine r_iconst (v := nI 1) (pc := 38) dX4_readOneChair_38 (by decide) ?_
      refine pf_X4_22 (pc := 39) dX4_readOneChair_39 rfl ?_
      exact r_vret (pc := 42) dX4_readOneChair_42 rfl ⟨rfl, ⟨fun q h1 h2 => mset_ne _ _ _ h1, rfl⟩, fun pl w z => (by rw [e9] at z; cases z; exact ⟨by decide, by decide, hp, rfl⟩), fun d p2 z => (by rw [e9] at z; cases z)⟩
  refine r_aload_n (pc := 0) dX4_readOneChair_0 rfl ?_
  refine gf_X4_19 (pc := 1) dX4_readOneChair_1 rfl ?_
  refine r_is (nI p) (hp) ?_
  refine r_aload_n (pc := 4) dX4_readOneChair_4 rfl ?_
  refine gf_X4_15 (pc := 5) dX4_readOneChair_5 rfl ?_
  refine r_is (nI b) (hb) ?_
  refine r_icmp_ge (tgt := 31) (pc := 8) dX4_readOneChair_8 (by decide) (fun h8 => ?_) (fun h8 => ?_)
  · have hpb2 : b ≤ p := (nI_leI (by omega) (by omega)).mp h8
    refine r_iconst (v := nI 0) (pc := 31) dX4_readOneChair_31 (by decide) ?_
    exact J32 _ (by rw [srt_end (fun z => by omega)])
  · have hpb2 : p < b := Nat.not_le.mp (fun z => h8 (nI_le z (by omega)))
    obtain ⟨x, hx256, hx⟩ := hby p hpb2
    refine r_ldS (pc := 11) dX4_readOneChair_11 ?_
    refine r_aload_n (pc := 13) dX4_readOneChair_13 rfl ?_
    refine gf_X4_9 (pc := 14) dX4_readOneChair_14 rfl ?_
    refine r_aload_n (pc := 17) dX4_readOneChair_17 rfl ?_
    refine gf_X4_19 (pc := 18) dX4_readOneChair_18 rfl ?_
    refine r_is (nI p) (hp) ?_
    refine r_iald (pc := 21) dX4_readOneChair_21 rfl (show _ < 120 by omega) ?_
    refine r_is (nI x) (by rw [hT]; exact hx) ?_
    refine r_i2c (pc := 22) dX4_readOneChair_22 ?_
    refine r_is (nI x) (i2c_n x hx256) ?_
    refine iv_X4_53 (c_J0_indexOf _ _ _ x hx256) (pc := 23) dX4_readOneChair_23 ⟨Nat.le_of_ble_eq_true rfl, Nat.le_of_ble_eq_true rfl⟩ (Nat.le_of_ble_eq_true rfl) hcs (kI ?_)
    refine r_iconst (v := nI 1) (pc := 26) dX4_readOneChair_26 (by decide) ?_
    refine r_iadd (pc := 27) dX4_readOneChair_27 ?_
    refine r_goto (tgt := 32) (pc := 28) dX4_readOneChair_28 (by decide) ?_
    exact J32 _ (idx_srt hpb2 hx hx256)

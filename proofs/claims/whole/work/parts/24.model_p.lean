def isDg (T : Nat → Int32) (p : Nat) : Bool := decide (nI 48 ≤ T p ∧ T p ≤ nI 57)
def dgF (T : Nat → Int32) : Nat → Nat → Nat
  | _, 0 => 0
  | p, f + 1 => if isDg T p = true then dgF T (p + 1) f + 1 else 0
/-- how many figures stand from p on -/
def dgL (T : Nat → Int32) (b p : Nat) : Nat := dgF T p (b - p)
theorem dgF_eq (T : Nat → Int32) : ∀ (j p f : Nat), (∀ i, i < j → isDg T (p + i) = true) → j ≤ f → (j = f ∨ ¬ isDg T (p + j) = true) → dgF T p f = j
  | 0, p, f, h, hf, he => by
    cases f with
    | zero => rfl
    | succ f =>
      rw [dgF, if_neg]
      exact he.resolve_left (by omega)
  | j + 1, p, f, h, hf, he => by
    cases f with
    | zero => omega
    | succ f =>
      rw [dgF, if_pos (show isDg T p = true from h 0 (by omega)), dgF_eq T j (p + 1) f (fun i hi => by rw [show p + 1 + i = p + (i + 1) by omega]; exact h (i + 1) (by omega)) (by omega) (by rw [show p + 1 + j = p + (j + 1) by omega]; rcases he with he | he; exact Or.inl (by omega); exact Or.inr he)]
theorem dgL_eq {T : Nat → Int32} {b p j : Nat} (h : ∀ i, i < j → isDg T (p + i) = true) (hj : p + j ≤ b) (he : p + j = b ∨ ¬ isDg T (p + j) = true) : dgL T b p = j := by
  refine dgF_eq T j p (b - p) h (by omega) ?_
  rcases he with he | he
  · exact Or.inl (by omega)
  · exact Or.inr he
theorem dgF_all (T : Nat → Int32) : ∀ (f p i : Nat), i < dgF T p f → isDg T (p + i) = true
  | 0, p, i, h => by rw [dgF] at h; omega
  | f + 1, p, i, h => by
    rw [dgF] at h
    split at h
    · rename_i hd
      cases i with
      | zero => exact hd
      | succ i =>
        rw [show p + (i + 1) = p + 1 + i by omega]
        exact dgF_all T f (p + 1) i (by omega)
    · omega
theorem dgF_le (T : Nat → Int32) : ∀ (f p : Nat), dgF T p f ≤ f
  | 0, _ => Nat.le_refl _
  | f + 1, p => by
    rw [dgF]
    split
    · have := dgF_le T f (p + 1); omega
    · omega
theorem dgL_le {T : Nat → Int32} {b p : Nat} (h : p ≤ b) : p + dgL T b p ≤ b := by
  have := dgF_le T (b - p) p
  unfold dgL
  omega
/-- the number of the first j figures, as the reference reckons it -/
def valF (T : Nat → Int32) (p : Nat) : Nat → Int32
  | 0 => nI 0
  | j + 1 => if valF T p j ≤ nI 99 then nI 10 * valF T p j + T (p + j) - nI 48 else valF T p j
abbrev ltr (x : Int32) : Prop := (nI 97 ≤ x ∧ x ≤ nI 122) ∨ x = nI 44 ∨ x = nI 59
/-- the reference stands ahead of the token that begins at p -/
def pos (N : Mem) (b p : Nat) : Prop := N 0 13 = nI p ∧ ((0 < dgL (N 6) b p ∧ N 0 11 = (if dgL (N 6) b p ≤ 2 then nI 2 else nI 0) ∧ N 0 12 = valF (N 6) p (dgL (N 6) b p) ∧ N 0 10 = nI (p + dgL (N 6) b p)) ∨ (dgL (N 6) b p = 0 ∧ p = b ∧ N 0 11 = nI 3 ∧ N 0 10 = nI p) ∨ (dgL (N 6) b p = 0 ∧ p < b ∧ N 0 11 = (if ltr (N 6 p) then nI 1 else nI 0) ∧ N 0 12 = N 6 p ∧ N 0 10 = nI (p + 1)))
def frN (M N : Mem) : Prop := (∀ q, q ≠ 0 → N q = M q) ∧ ∀ j, j < 10 ∨ 13 < j → N 0 j = M 0 j
theorem frN.refl (M : Mem) : frN M M := ⟨fun _ _ => rfl, fun _ _ => rfl⟩
theorem frN.put {M N : Mem} (h : frN M N) {i : Nat} (h1 : 10 ≤ i) (h2 : i ≤ 13) (v : Int32) : frN M (mset N 0 i v) :=
  ⟨fun q hq => by rw [mset_ne _ _ _ hq]; exact h.1 q hq, fun j hj => by rw [mset_eq, pk_un (by omega)]; exact h.2 j hj⟩
set_option maxHeartbeats 4000000 in
set_option maxRecDepth 100000 in
theorem c_X6_nextToken (l : Launch) (G : Gx) (M : Mem) (p b : Nat) (hp : M 0 10 = nI p) (hb : M 0 8 = nI b) (hpb : p ≤ b) (hb120 : b ≤ 120) : Con l G yX6_nextToken cX6_nextToken 1 none 1 25 [.ref (gA G 0)] M (qV (fun N5 => frN M N5 ∧ pos N5 b p)) := by
  refine Con.ofV [some (.ref (gA G 0))] RX6 (by decide) rfl (Nat.le_of_ble_eq_true rfl) rfl ?_
  intro κ hl hG hk0 hn0
  subst hl hG
  have hcs : κ.k ≤ 0 ∧ κ.n ≤ 0 := ⟨Nat.le_of_eq hk0, Nat.le_of_eq hn0⟩
  refine r_aload_n (pc := 0) dX6_nextToken_0 rfl ?_
  refine r_aload_n (pc := 1) dX6_nextToken_1 rfl ?_
  refine gf_X6_85 (pc := 2) dX6_nextToken_2 rfl ?_
  refine r_is (nI p) hp ?_
  refine pf_X6_88 (pc := 5) dX6_nextToken_5 rfl ?_
  refine r_aload_n (pc := 8) dX6_nextToken_8 rfl ?_
  refine r_aload_n (pc := 9) dX6_nextToken_9 rfl ?_
  refine gf_X6_85 (pc := 10) dX6_nextToken_10 rfl ?_
  refine r_is (nI p) hp ?_
  refine r_aload_n (pc := 13) dX6_nextToken_13 rfl ?_
  refine gf_X6_81 (pc := 14) dX6_nextToken_14 rfl ?_
  refine r_is (nI b) hb ?_
  refine t_icmp_ne (tgt := 24) (J := 25) (a := ?pA17x1) (b := ?pB17x1) (pc := 17) dX6_nextToken_17 (by decide) (fun k17x1 => ?pT17x1) (fun k17x1 => ?pF17x1) ?pK17x1
  case pT17x1 =>
    refine r_iconst (v := nI 0) (pc := 24) dX6_nextToken_24 (by decide) ?_
    exact k17x1
  case pF17x1 =>
    refine r_iconst (v := nI 3) (pc := 20) dX6_nextToken_20 (by decide) ?_
    refine r_goto (tgt := 25) (pc := 21) dX6_nextToken_21 (by decide) ?_
    exact k17x1
  case pK17x1 =>
    refine pf_X6_91 (pc := 25) dX6_nextToken_25 rfl ?_
    refine r_aload_n (pc := 28) dX6_nextToken_28 rfl ?_
    refine r_iconst (v := nI 0) (pc := 29) dX6_nextToken_29 (by decide) ?_
    refine pf_X6_94 (pc := 30) dX6_nextToken_30 rfl ?_
    refine V.bk (loopV (fun (σ : Nat × Mem) => V κ cX6_nextToken RX6 1 none (rmx 1 25) (QM κ (qV (fun N5 => frN M N5 ∧ pos N5 b p))) (σ.2) 33 [some (.ref (gA κ.G 0))] []) (fun (σ : Nat × Mem) => p + (σ.1) ≤ b ∧ frN M (σ.2) ∧ (σ.2) 0 13 = nI p ∧ (σ.2) 0 11 = (if nI p = nI b then nI 3 else nI 0) ∧ (σ.2) 0 12 = valF (M 6) p (σ.1) ∧ (σ.2) 0 10 = nI (p + (σ.1)) ∧ ∀ i, i < (σ.1) → isDg (M 6) (p + i) = true) (fun (σ : Nat × Mem) => b - (p + (σ.1))) ?_ (0, mset (mset (mset M 0 13 (nI p)) 0 11 (if nI p = nI b then nI 3 else nI 0)) 0 12 (nI 0)) ⟨hpb, (((frN.refl M).put (i := 13) (by decide) (by decide) _).put (i := 11) (by decide) (by decide) _).put (i := 12) (by decide) (by decide) _, rfl, rfl, rfl, hp, fun i h => absurd h (Nat.not_lt_zero i)⟩) rfl (by (repeat (first | exact wk_0 | refine wk_n ?_ | refine wk_s rfl ?_)); done)
    rintro ⟨j, N⟩ hI0 ih
    dsimp only at hI0 ih
    obtain ⟨hj, hf, h13, h11, h12, h10, hi⟩ := hI0
    show V κ cX6_nextToken RX6 1 none (rmx 1 25) (QM κ (qV (fun N5 => frN M N5 ∧ pos N5 b p))) N 33 [some (.ref (gA κ.G 0))] []
    have h6 : N 6 = M 6 := hf.1 6 (by decide)
    refine r_aload_n (pc := 33) dX6_nextToken_33 rfl ?_
    refine gf_X6_85 (pc := 34) dX6_nextToken_34 rfl ?_
    refine r_is (nI (p + j)) h10 ?_
    refine r_aload_n (pc := 37) dX6_nextToken_37 rfl ?_
    refine gf_X6_81 (pc := 38) dX6_nextToken_38 rfl ?_
    refine r_is (nI b) ((hf.2 8 (by omega)).trans hb) ?_
    refine r_icmp_ge (tgt := 119) (pc := 41) dX6_nextToken_41 (by decide) (fun h41 => ?_) (fun h41 => ?_)
    · have hx : p + j = b ∨ ¬ isDg (M 6) (p + j) = true := Or.inl (by have := (nI_leI (by omega) (by omega)).mp h41; omega)
      refine r_aload_n (pc := 119) dX6_nextToken_119 rfl ?_
      refine gf_X6_85 (pc := 120) dX6_nextToken_120 rfl ?_
      refine r_is (nI (p + j)) h10 ?_
      refine r_aload_n (pc := 123) dX6_nextToken_123 rfl ?_
      refine gf_X6_88 (pc := 124) dX6_nextToken_124 rfl ?_
      refine r_is (nI p) h13 ?_
      refine r_icmp_le (tgt := 155) (pc := 127) dX6_nextToken_127 (by decide) (fun h127 => ?_) (fun h127 => ?_)
      · have hj0 : j = 0 := by have := (nI_leI (by omega) (by omega)).mp h127; omega
        have hd := dgL_eq hi hj hx
        refine r_aload_n (pc := 155) dX6_nextToken_155 rfl ?_
        refine gf_X6_91 (pc := 156) dX6_nextToken_156 rfl ?_
        refine r_is _ h11 ?_
        refine r_if_ne (tgt := 229) (pc := 159) dX6_nextToken_159 (by decide) (fun h159 => ?_) (fun h159 => ?_)
        · have hpb2 : p = b := Classical.byContradiction (fun z => h159 (by rw [if_neg (fun y => z ((nI_eq (by omega) (by omega)).mp y))]; rfl))
          exact r_vret (pc := 229) dX6_nextToken_229 rfl (by
                first
                  | (refine ⟨rfl, hf.put (by decide) (by decide) _, h13, Or.inl ?_⟩; show 0 < dgL (N 6) b p ∧ _ = (if dgL (N 6) b p ≤ 2 then nI 2 else nI 0) ∧ N 0 12 = valF (N 6) p (dgL (N 6) b p) ∧ N 0 10 = nI (p + dgL (N 6) b p); rw [h6, hd, Nat.add_sub_cancel_left]; refine ⟨hj0, ?_, h12, h10⟩; by_cases h2 : j ≤ 2; rw [if_pos h2]; exact if_pos (nI_le h2 (by omega)); rw [if_neg h2]; exact if_neg (fun z => h2 ((nI_leI (by omega) (by omega)).mp z)))
                  | (refine ⟨rfl, hf, h13, Or.inr (Or.inl ⟨by rw [h6, hd]; exact hj0, hpb2, by rw [h11, if_pos (by rw [hpb2])], by rw [h10, hj0]; rfl⟩)⟩)
                  | (refine ⟨rfl, ((hf.put (i := 12) (by decide) (by decide) _).put (i := 11) (by decide) (by decide) _).put (i := 10) (by decide) (by decide) _, h13, Or.inr (Or.inr ⟨?_, hpb2, ?_, ?_, rfl⟩)⟩; show dgL (N 6) b p = 0; rw [h6, hd]; exact hj0; show _ = (if ltr (N 6 p) then nI 1 else nI 0); rw [h6]; exact hl; show M 6 p = N 6 p; rw [h6]))
        · have hpb2 : p < b := Nat.lt_of_le_of_ne hpb (fun z => absurd h159 (by rw [if_pos (by rw [z])]; decide))
          refine r_aload_n (pc := 162) dX6_nextToken_162 rfl ?_
          refine r_aload_n (pc := 163) dX6_nextToken_163 rfl ?_
          refine gf_X6_25 (pc := 164) dX6_nextToken_164 rfl ?_
          refine r_aload_n (pc := 167) dX6_nextToken_167 rfl ?_
          refine gf_X6_85 (pc := 168) dX6_nextToken_168 rfl ?_
          refine r_is (nI p) (by rw [h10, hj0]; rfl) ?_
          refine r_iald (pc := 171) dX6_nextToken_171 rfl (show _ < 120 by omega) ?_
          refine r_is (M 6 p) (by rw [h6]) ?_
          refine pf_X6_94 (pc := 172) dX6_nextToken_172 rfl ?_
          refine r_aload_n (pc := 175) dX6_nextToken_175 rfl ?_
          refine r_aload_n (pc := 176) dX6_nextToken_176 rfl ?_
          refine gf_X6_94 (pc := 177) dX6_nextToken_177 rfl ?_
          refine r_is (M 6 p) rfl ?_
          refine r_i2l (pc := 180) dX6_nextToken_180 ?_
          refine r_ldc2 (pc := 181) dX6_nextToken_181 lk_X6_101 ?_
          refine r_ldc2 (pc := 184) dX6_nextToken_184 lk_X6_103 ?_
          refine iv_X6_57 (c_X6_inI _ _ _ _ _ _) (pc := 187) dX6_nextToken_187 ⟨Nat.le_of_ble_eq_true rfl, Nat.le_of_ble_eq_true rfl⟩ (Nat.le_of_ble_eq_true rfl) hcs (kI ?_)
          refine r_ifne_b (tgt := 211) (pc := 190) dX6_nextToken_190 (by decide) (fun h190 => ?_) (fun h190 => ?_)
          · have hl : nI 1 = (if ltr (M 6 p) then nI 1 else nI 0) := (if_pos (Or.inl h190)).symm
            refine r_iconst (v := nI 1) (pc := 211) dX6_nextToken_211 (by decide) ?_
            refine r_goto (tgt := 216) (pc := 212) dX6_nextToken_212 (by decide) ?_
            refine pf_X6_91 (pc := 216) dX6_nextToken_216 rfl ?_
            refine r_aload_n (pc := 219) dX6_nextToken_219 rfl ?_
            refine r_dup (pc := 220) dX6_nextToken_220 rfl ?_
            refine gf_X6_85 (pc := 221) dX6_nextToken_221 rfl ?_
            refine r_is (nI p) (by show N 0 10 = _; rw [h10, hj0]; rfl) ?_
            refine r_iconst (v := nI 1) (pc := 224) dX6_nextToken_224 (by decide) ?_
            first | with_reducible refine r_iaddN (pc := 225) dX6_nextToken_225 ?_ | refine r_iadd (pc := 225) dX6_nextToken_225 ?_
            refine pf_X6_85 (pc := 226) dX6_nextToken_226 rfl ?_
            exact r_vret (pc := 229) dX6_nextToken_229 rfl (by
                  first
                    | (refine ⟨rfl, hf.put (by decide) (by decide) _, h13, Or.inl ?_⟩; show 0 < dgL (N 6) b p ∧ _ = (if dgL (N 6) b p ≤ 2 then nI 2 else nI 0) ∧ N 0 12 = valF (N 6) p (dgL (N 6) b p) ∧ N 0 10 = nI (p + dgL (N 6) b p); rw [h6, hd, Nat.add_sub_cancel_left]; refine ⟨hj0, ?_, h12, h10⟩; by_cases h2 : j ≤ 2; rw [if_pos h2]; exact if_pos (nI_le h2 (by omega)); rw [if_neg h2]; exact if_neg (fun z => h2 ((nI_leI (by omega) (by omega)).mp z)))
                    | (refine ⟨rfl, hf, h13, Or.inr (Or.inl ⟨by rw [h6, hd]; exact hj0, hpb2, by rw [h11, if_pos (by rw [hpb2])], by rw [h10, hj0]; rfl⟩)⟩)
                    | (refine ⟨rfl, ((hf.put (i := 12) (by decide) (by decide) _).put (i := 11) (by decide) (by decide) _).put (i := 10) (by decide) (by decide) _, h13, Or.inr (Or.inr ⟨?_, hpb2, ?_, ?_, rfl⟩)⟩; show dgL (N 6) b p = 0; rw [h6, hd]; exact hj0; show _ = (if ltr (N 6 p) then nI 1 else nI 0); rw [h6]; exact hl; show M 6 p = N 6 p; rw [h6]))
          · refine r_aload_n (pc := 193) dX6_nextToken_193 rfl ?_
            refine gf_X6_94 (pc := 194) dX6_nextToken_194 rfl ?_
            refine r_is (M 6 p) rfl ?_
            refine r_bipush (v := nI 44) (pc := 197) dX6_nextToken_197 (by decide) ?_
            refine r_icmp_eq (tgt := 211) (pc := 199) dX6_nextToken_199 (by decide) (fun h199 => ?_) (fun h199 => ?_)
            · have hl : nI 1 = (if ltr (M 6 p) then nI 1 else nI 0) := (if_pos (Or.inr (Or.inl h199))).symm
              refine r_iconst (v := nI 1) (pc := 211) dX6_nextToken_211 (by decide) ?_
              refine r_goto (tgt := 216) (pc := 212) dX6_nextToken_212 (by decide) ?_
              refine pf_X6_91 (pc := 216) dX6_nextToken_216 rfl ?_
              refine r_aload_n (pc := 219) dX6_nextToken_219 rfl ?_
              refine r_dup (pc := 220) dX6_nextToken_220 rfl ?_
              refine gf_X6_85 (pc := 221) dX6_nextToken_221 rfl ?_
              refine r_is (nI p) (by show N 0 10 = _; rw [h10, hj0]; rfl) ?_
              refine r_iconst (v := nI 1) (pc := 224) dX6_nextToken_224 (by decide) ?_
              first | with_reducible refine r_iaddN (pc := 225) dX6_nextToken_225 ?_ | refine r_iadd (pc := 225) dX6_nextToken_225 ?_
              refine pf_X6_85 (pc := 226) dX6_nextToken_226 rfl ?_
              exact r_vret (pc := 229) dX6_nextToken_229 rfl (by
                    first
                      | (refine ⟨rfl, hf.put (by decide) (by decide) _, h13, Or.inl ?_⟩; show 0 < dgL (N 6) b p ∧ _ = (if dgL (N 6) b p ≤ 2 then nI 2 else nI 0) ∧ N 0 12 = valF (N 6) p (dgL (N 6) b p) ∧ N 0 10 = nI (p + dgL (N 6) b p); rw [h6, hd, Nat.add_sub_cancel_left]; refine ⟨hj0, ?_, h12, h10⟩; by_cases h2 : j ≤ 2; rw [if_pos h2]; exact if_pos (nI_le h2 (by omega)); rw [if_neg h2]; exact if_neg (fun z => h2 ((nI_leI (by omega) (by omega)).mp z)))
                      | (refine ⟨rfl, hf, h13, Or.inr (Or.inl ⟨by rw [h6, hd]; exact hj0, hpb2, by rw [h11, if_pos (by rw [hpb2])], by rw [h10, hj0]; rfl⟩)⟩)
                      | (refine ⟨rfl, ((hf.put (i := 12) (by decide) (by decide) _).put (i := 11) (by decide) (by decide) _).put (i := 10) (by decide) (by decide) _, h13, Or.inr (Or.inr ⟨?_, hpb2, ?_, ?_, rfl⟩)⟩; show dgL (N 6) b p = 0; rw [h6, hd]; exact hj0; show _ = (if ltr (N 6 p) then nI 1 else nI 0); rw [h6]; exact hl; show M 6 p = N 6 p; rw [h6]))
            · refine r_aload_n (pc := 202) dX6_nextToken_202 rfl ?_
              refine gf_X6_94 (pc := 203) dX6_nextToken_203 rfl ?_
              refine r_is (M 6 p) rfl ?_
              refine r_bipush (v := nI 59) (pc := 206) dX6_nextToken_206 (by decide) ?_
              refine r_icmp_ne (tgt := 215) (pc := 208) dX6_nextToken_208 (by decide) (fun h208 => ?_) (fun h208 => ?_)
              · have hl : nI 0 = (if ltr (M 6 p) then nI 1 else nI 0) := (if_neg (by rintro (z | z | z); exact h190 z; exact h199 z; exact h208 z)).symm
                refine r_iconst (v := nI 0) (pc := 215) dX6_nextToken_215 (by decide) ?_
                refine pf_X6_91 (pc := 216) dX6_nextToken_216 rfl ?_
                refine r_aload_n (pc := 219) dX6_nextToken_219 rfl ?_
                refine r_dup (pc := 220) dX6_nextToken_220 rfl ?_
                refine gf_X6_85 (pc := 221) dX6_nextToken_221 rfl ?_
                refine r_is (nI p) (by show N 0 10 = _; rw [h10, hj0]; rfl) ?_
                refine r_iconst (v := nI 1) (pc := 224) dX6_nextToken_224 (by decide) ?_
                first | with_reducible refine r_iaddN (pc := 225) dX6_nextToken_225 ?_ | refine r_iadd (pc := 225) dX6_nextToken_225 ?_
                refine pf_X6_85 (pc := 226) dX6_nextToken_226 rfl ?_
                exact r_vret (pc := 229) dX6_nextToken_229 rfl (by
                      first
                        | (refine ⟨rfl, hf.put (by decide) (by decide) _, h13, Or.inl ?_⟩; show 0 < dgL (N 6) b p ∧ _ = (if dgL (N 6) b p ≤ 2 then nI 2 else nI 0) ∧ N 0 12 = valF (N 6) p (dgL (N 6) b p) ∧ N 0 10 = nI (p + dgL (N 6) b p); rw [h6, hd, Nat.add_sub_cancel_left]; refine ⟨hj0, ?_, h12, h10⟩; by_cases h2 : j ≤ 2; rw [if_pos h2]; exact if_pos (nI_le h2 (by omega)); rw [if_neg h2]; exact if_neg (fun z => h2 ((nI_leI (by omega) (by omega)).mp z)))
                        | (refine ⟨rfl, hf, h13, Or.inr (Or.inl ⟨by rw [h6, hd]; exact hj0, hpb2, by rw [h11, if_pos (by rw [hpb2])], by rw [h10, hj0]; rfl⟩)⟩)
                        | (refine ⟨rfl, ((hf.put (i := 12) (by decide) (by decide) _).put (i := 11) (by decide) (by decide) _).put (i := 10) (by decide) (by decide) _, h13, Or.inr (Or.inr ⟨?_, hpb2, ?_, ?_, rfl⟩)⟩; show dgL (N 6) b p = 0; rw [h6, hd]; exact hj0; show _ = (if ltr (N 6 p) then nI 1 else nI 0); rw [h6]; exact hl; show M 6 p = N 6 p; rw [h6]))
              · have hl : nI 1 = (if ltr (M 6 p) then nI 1 else nI 0) := (if_pos (Or.inr (Or.inr h208))).symm
                refine r_iconst (v := nI 1) (pc := 211) dX6_nextToken_211 (by decide) ?_
                refine r_goto (tgt := 216) (pc := 212) dX6_nextToken_212 (by decide) ?_
                refine pf_X6_91 (pc := 216) dX6_nextToken_216 rfl ?_
                refine r_aload_n (pc := 219) dX6_nextToken_219 rfl ?_
                refine r_dup (pc := 220) dX6_nextToken_220 rfl ?_
                refine gf_X6_85 (pc := 221) dX6_nextToken_221 rfl ?_
                refine r_is (nI p) (by show N 0 10 = _; rw [h10, hj0]; rfl) ?_
                refine r_iconst (v := nI 1) (pc := 224) dX6_nextToken_224 (by decide) ?_
                first | with_reducible refine r_iaddN (pc := 225) dX6_nextToken_225 ?_ | refine r_iadd (pc := 225) dX6_nextToken_225 ?_
                refine pf_X6_85 (pc := 226) dX6_nextToken_226 rfl ?_
                exact r_vret (pc := 229) dX6_nextToken_229 rfl (by
                      first
                        | (refine ⟨rfl, hf.put (by decide) (by decide) _, h13, Or.inl ?_⟩; show 0 < dgL (N 6) b p ∧ _ = (if dgL (N 6) b p ≤ 2 then nI 2 else nI 0) ∧ N 0 12 = valF (N 6) p (dgL (N 6) b p) ∧ N 0 10 = nI (p + dgL (N 6) b p); rw [h6, hd, Nat.add_sub_cancel_left]; refine ⟨hj0, ?_, h12, h10⟩; by_cases h2 : j ≤ 2; rw [if_pos h2]; exact if_pos (nI_le h2 (by omega)); rw [if_neg h2]; exact if_neg (fun z => h2 ((nI_leI (by omega) (by omega)).mp z)))
                        | (refine ⟨rfl, hf, h13, Or.inr (Or.inl ⟨by rw [h6, hd]; exact hj0, hpb2, by rw [h11, if_pos (by rw [hpb2])], by rw [h10, hj0]; rfl⟩)⟩)
                        | (refine ⟨rfl, ((hf.put (i := 12) (by decide) (by decide) _).put (i := 11) (by decide) (by decide) _).put (i := 10) (by decide) (by decide) _, h13, Or.inr (Or.inr ⟨?_, hpb2, ?_, ?_, rfl⟩)⟩; show dgL (N 6) b p = 0; rw [h6, hd]; exact hj0; show _ = (if ltr (N 6 p) then nI 1 else nI 0); rw [h6]; exact hl; show M 6 p = N 6 p; rw [h6]))
      · have hj0 : 0 < j := Nat.pos_of_ne_zero (fun z => h127 (by rw [z]; exact nI_le (by omega) (by omega)))
        have hd := dgL_eq hi hj hx
        refine r_aload_n (pc := 130) dX6_nextToken_130 rfl ?_
        refine r_aload_n (pc := 131) dX6_nextToken_131 rfl ?_
        refine gf_X6_85 (pc := 132) dX6_nextToken_132 rfl ?_
        refine r_is (nI (p + j)) h10 ?_
        refine r_aload_n (pc := 135) dX6_nextToken_135 rfl ?_
        refine gf_X6_88 (pc := 136) dX6_nextToken_136 rfl ?_
        refine r_is (nI p) h13 ?_
        refine r_isubN (pc := 139) dX6_nextToken_139 (by omega) ?_
        refine r_iconst (v := nI 2) (pc := 140) dX6_nextToken_140 (by decide) ?_
        refine t_icmp_le (tgt := 148) (J := 149) (a := ?pA141x2) (b := ?pB141x2) (pc := 141) dX6_nextToken_141 (by decide) (fun k141x2 => ?pT141x2) (fun k141x2 => ?pF141x2) ?pK141x2
        case pT141x2 =>
          refine r_iconst (v := nI 2) (pc := 148) dX6_nextToken_148 (by decide) ?_
          exact k141x2
        case pF141x2 =>
          refine r_iconst (v := nI 0) (pc := 144) dX6_nextToken_144 (by decide) ?_
          refine r_goto (tgt := 149) (pc := 145) dX6_nextToken_145 (by decide) ?_
          exact k141x2
        case pK141x2 =>
          refine pf_X6_91 (pc := 149) dX6_nextToken_149 rfl ?_
          refine r_goto (tgt := 229) (pc := 152) dX6_nextToken_152 (by decide) ?_
          exact r_vret (pc := 229) dX6_nextToken_229 rfl (by
                first
                  | (refine ⟨rfl, hf.put (by decide) (by decide) _, h13, Or.inl ?_⟩; show 0 < dgL (N 6) b p ∧ _ = (if dgL (N 6) b p ≤ 2 then nI 2 else nI 0) ∧ N 0 12 = valF (N 6) p (dgL (N 6) b p) ∧ N 0 10 = nI (p + dgL (N 6) b p); rw [h6, hd, Nat.add_sub_cancel_left]; refine ⟨hj0, ?_, h12, h10⟩; by_cases h2 : j ≤ 2; rw [if_pos h2]; exact if_pos (nI_le h2 (by omega)); rw [if_neg h2]; exact if_neg (fun z => h2 ((nI_leI (by omega) (by omega)).mp z)))
                  | (refine ⟨rfl, hf, h13, Or.inr (Or.inl ⟨by rw [h6, hd]; exact hj0, hpb2, by rw [h11, if_pos (by rw [hpb2])], by rw [h10, hj0]; rfl⟩)⟩)
                  | (refine ⟨rfl, ((hf.put (i := 12) (by decide) (by decide) _).put (i := 11) (by decide) (by decide) _).put (i := 10) (by decide) (by decide) _, h13, Or.inr (Or.inr ⟨?_, hpb2, ?_, ?_, rfl⟩)⟩; show dgL (N 6) b p = 0; rw [h6, hd]; exact hj0; show _ = (if ltr (N 6 p) then nI 1 else nI 0); rw [h6]; exact hl; show M 6 p = N 6 p; rw [h6]))
    · have h41 : p + j < b := Nat.not_le.mp (fun z => h41 ((nI_leI (by omega) (by omega)).mpr z))
      refine r_aload_n (pc := 44) dX6_nextToken_44 rfl ?_
      refine gf_X6_25 (pc := 45) dX6_nextToken_45 rfl ?_
      refine r_aload_n (pc := 48) dX6_nextToken_48 rfl ?_
      refine gf_X6_85 (pc := 49) dX6_nextToken_49 rfl ?_
      refine r_is (nI (p + j)) h10 ?_
      refine r_iald (pc := 52) dX6_nextToken_52 rfl (show _ < 120 by omega) ?_
      refine r_is (M 6 (p + j)) (by rw [h6]) ?_
      refine r_i2l (pc := 53) dX6_nextToken_53 ?_
      refine r_ldc2 (pc := 54) dX6_nextToken_54 lk_X6_97 ?_
      refine r_ldc2 (pc := 57) dX6_nextToken_57 lk_X6_99 ?_
      refine iv_X6_57 (c_X6_inI _ _ _ _ _ _) (pc := 60) dX6_nextToken_60 ⟨Nat.le_of_ble_eq_true rfl, Nat.le_of_ble_eq_true rfl⟩ (Nat.le_of_ble_eq_true rfl) hcs (kI ?_)
      refine r_ifeq_b (tgt := 119) (pc := 63) dX6_nextToken_63 (by decide) (fun h63 => ?_) (fun h63 => ?_)
      · have hx : p + j = b ∨ ¬ isDg (M 6) (p + j) = true := Or.inr (fun z => h63 (of_decide_eq_true z))
        refine r_aload_n (pc := 119) dX6_nextToken_119 rfl ?_
        refine gf_X6_85 (pc := 120) dX6_nextToken_120 rfl ?_
        refine r_is (nI (p + j)) h10 ?_
        refine r_aload_n (pc := 123) dX6_nextToken_123 rfl ?_
        refine gf_X6_88 (pc := 124) dX6_nextToken_124 rfl ?_
        refine r_is (nI p) h13 ?_
        refine r_icmp_le (tgt := 155) (pc := 127) dX6_nextToken_127 (by decide) (fun h127 => ?_) (fun h127 => ?_)
        · have hj0 : j = 0 := by have := (nI_leI (by omega) (by omega)).mp h127; omega
          have hd := dgL_eq hi hj hx
          refine r_aload_n (pc := 155) dX6_nextToken_155 rfl ?_
          refine gf_X6_91 (pc := 156) dX6_nextToken_156 rfl ?_
          refine r_is _ h11 ?_
          refine r_if_ne (tgt := 229) (pc := 159) dX6_nextToken_159 (by decide) (fun h159 => ?_) (fun h159 => ?_)
          · have hpb2 : p = b := Classical.byContradiction (fun z => h159 (by rw [if_neg (fun y => z ((nI_eq (by omega) (by omega)).mp y))]; rfl))
            exact r_vret (pc := 229) dX6_nextToken_229 rfl (by
                  first
                    | (refine ⟨rfl, hf.put (by decide) (by decide) _, h13, Or.inl ?_⟩; show 0 < dgL (N 6) b p ∧ _ = (if dgL (N 6) b p ≤ 2 then nI 2 else nI 0) ∧ N 0 12 = valF (N 6) p (dgL (N 6) b p) ∧ N 0 10 = nI (p + dgL (N 6) b p); rw [h6, hd, Nat.add_sub_cancel_left]; refine ⟨hj0, ?_, h12, h10⟩; by_cases h2 : j ≤ 2; rw [if_pos h2]; exact if_pos (nI_le h2 (by omega)); rw [if_neg h2]; exact if_neg (fun z => h2 ((nI_leI (by omega) (by omega)).mp z)))
                    | (refine ⟨rfl, hf, h13, Or.inr (Or.inl ⟨by rw [h6, hd]; exact hj0, hpb2, by rw [h11, if_pos (by rw [hpb2])], by rw [h10, hj0]; rfl⟩)⟩)
                    | (refine ⟨rfl, ((hf.put (i := 12) (by decide) (by decide) _).put (i := 11) (by decide) (by decide) _).put (i := 10) (by decide) (by decide) _, h13, Or.inr (Or.inr ⟨?_, hpb2, ?_, ?_, rfl⟩)⟩; show dgL (N 6) b p = 0; rw [h6, hd]; exact hj0; show _ = (if ltr (N 6 p) then nI 1 else nI 0); rw [h6]; exact hl; show M 6 p = N 6 p; rw [h6]))
          · have hpb2 : p < b := Nat.lt_of_le_of_ne hpb (fun z => absurd h159 (by rw [if_pos (by rw [z])]; decide))
            refine r_aload_n (pc := 162) dX6_nextToken_162 rfl ?_
            refine r_aload_n (pc := 163) dX6_nextToken_163 rfl ?_
            refine gf_X6_25 (pc := 164) dX6_nextToken_164 rfl ?_
            refine r_aload_n (pc := 167) dX6_nextToken_167 rfl ?_
            refine gf_X6_85 (pc := 168) dX6_nextToken_168 rfl ?_
            refine r_is (nI p) (by rw [h10, hj0]; rfl) ?_
            refine r_iald (pc := 171) dX6_nextToken_171 rfl (show _ < 120 by omega) ?_
            refine r_is (M 6 p) (by rw [h6]) ?_
            refine pf_X6_94 (pc := 172) dX6_nextToken_172 rfl ?_
            refine r_aload_n (pc := 175) dX6_nextToken_175 rfl ?_
            refine r_aload_n (pc := 176) dX6_nextToken_176 rfl ?_
            refine gf_X6_94 (pc := 177) dX6_nextToken_177 rfl ?_
            refine r_is (M 6 p) rfl ?_
            refine r_i2l (pc := 180) dX6_nextToken_180 ?_
            refine r_ldc2 (pc := 181) dX6_nextToken_181 lk_X6_101 ?_
            refine r_ldc2 (pc := 184) dX6_nextToken_184 lk_X6_103 ?_
            refine iv_X6_57 (c_X6_inI _ _ _ _ _ _) (pc := 187) dX6_nextToken_187 ⟨Nat.le_of_ble_eq_true rfl, Nat.le_of_ble_eq_true rfl⟩ (Nat.le_of_ble_eq_true rfl) hcs (kI ?_)
            refine r_ifne_b (tgt := 211) (pc := 190) dX6_nextToken_190 (by decide) (fun h190 => ?_) (fun h190 => ?_)
            · have hl : nI 1 = (if ltr (M 6 p) then nI 1 else nI 0) := (if_pos (Or.inl h190)).symm
              refine r_iconst (v := nI 1) (pc := 211) dX6_nextToken_211 (by decide) ?_
              refine r_goto (tgt := 216) (pc := 212) dX6_nextToken_212 (by decide) ?_
              refine pf_X6_91 (pc := 216) dX6_nextToken_216 rfl ?_
              refine r_aload_n (pc := 219) dX6_nextToken_219 rfl ?_
              refine r_dup (pc := 220) dX6_nextToken_220 rfl ?_
              refine gf_X6_85 (pc := 221) dX6_nextToken_221 rfl ?_
              refine r_is (nI p) (by show N 0 10 = _; rw [h10, hj0]; rfl) ?_
              refine r_iconst (v := nI 1) (pc := 224) dX6_nextToken_224 (by decide) ?_
              first | with_reducible refine r_iaddN (pc := 225) dX6_nextToken_225 ?_ | refine r_iadd (pc := 225) dX6_nextToken_225 ?_
              refine pf_X6_85 (pc := 226) dX6_nextToken_226 rfl ?_
              exact r_vret (pc := 229) dX6_nextToken_229 rfl (by
                    first
                      | (refine ⟨rfl, hf.put (by decide) (by decide) _, h13, Or.inl ?_⟩; show 0 < dgL (N 6) b p ∧ _ = (if dgL (N 6) b p ≤ 2 then nI 2 else nI 0) ∧ N 0 12 = valF (N 6) p (dgL (N 6) b p) ∧ N 0 10 = nI (p + dgL (N 6) b p); rw [h6, hd, Nat.add_sub_cancel_left]; refine ⟨hj0, ?_, h12, h10⟩; by_cases h2 : j ≤ 2; rw [if_pos h2]; exact if_pos (nI_le h2 (by omega)); rw [if_neg h2]; exact if_neg (fun z => h2 ((nI_leI (by omega) (by omega)).mp z)))
                      | (refine ⟨rfl, hf, h13, Or.inr (Or.inl ⟨by rw [h6, hd]; exact hj0, hpb2, by rw [h11, if_pos (by rw [hpb2])], by rw [h10, hj0]; rfl⟩)⟩)
                      | (refine ⟨rfl, ((hf.put (i := 12) (by decide) (by decide) _).put (i := 11) (by decide) (by decide) _).put (i := 10) (by decide) (by decide) _, h13, Or.inr (Or.inr ⟨?_, hpb2, ?_, ?_, rfl⟩)⟩; show dgL (N 6) b p = 0; rw [h6, hd]; exact hj0; show _ = (if ltr (N 6 p) then nI 1 else nI 0); rw [h6]; exact hl; show M 6 p = N 6 p; rw [h6]))
            · refine r_aload_n (pc := 193) dX6_nextToken_193 rfl ?_
              refine gf_X6_94 (pc := 194) dX6_nextToken_194 rfl ?_
              refine r_is (M 6 p) rfl ?_
              refine r_bipush (v := nI 44) (pc := 197) dX6_nextToken_197 (by decide) ?_
              refine r_icmp_eq (tgt := 211) (pc := 199) dX6_nextToken_199 (by decide) (fun h199 => ?_) (fun h199 => ?_)
              · have hl : nI 1 = (if ltr (M 6 p) then nI 1 else nI 0) := (if_pos (Or.inr (Or.inl h199))).symm
                refine r_iconst (v := nI 1) (pc := 211) dX6_nextToken_211 (by decide) ?_
                refine r_goto (tgt := 216) (pc := 212) dX6_nextToken_212 (by decide) ?_
                refine pf_X6_91 (pc := 216) dX6_nextToken_216 rfl ?_
                refine r_aload_n (pc := 219) dX6_nextToken_219 rfl ?_
                refine r_dup (pc := 220) dX6_nextToken_220 rfl ?_
                refine gf_X6_85 (pc := 221) dX6_nextToken_221 rfl ?_
                refine r_is (nI p) (by show N 0 10 = _; rw [h10, hj0]; rfl) ?_
                refine r_iconst (v := nI 1) (pc := 224) dX6_nextToken_224 (by decide) ?_
                first | with_reducible refine r_iaddN (pc := 225) dX6_nextToken_225 ?_ | refine r_iadd (pc := 225) dX6_nextToken_225 ?_
                refine pf_X6_85 (pc := 226) dX6_nextToken_226 rfl ?_
                exact r_vret (pc := 229) dX6_nextToken_229 rfl (by
                      first
                        | (refine ⟨rfl, hf.put (by decide) (by decide) _, h13, Or.inl ?_⟩; show 0 < dgL (N 6) b p ∧ _ = (if dgL (N 6) b p ≤ 2 then nI 2 else nI 0) ∧ N 0 12 = valF (N 6) p (dgL (N 6) b p) ∧ N 0 10 = nI (p + dgL (N 6) b p); rw [h6, hd, Nat.add_sub_cancel_left]; refine ⟨hj0, ?_, h12, h10⟩; by_cases h2 : j ≤ 2; rw [if_pos h2]; exact if_pos (nI_le h2 (by omega)); rw [if_neg h2]; exact if_neg (fun z => h2 ((nI_leI (by omega) (by omega)).mp z)))
                        | (refine ⟨rfl, hf, h13, Or.inr (Or.inl ⟨by rw [h6, hd]; exact hj0, hpb2, by rw [h11, if_pos (by rw [hpb2])], by rw [h10, hj0]; rfl⟩)⟩)
                        | (refine ⟨rfl, ((hf.put (i := 12) (by decide) (by decide) _).put (i := 11) (by decide) (by decide) _).put (i := 10) (by decide) (by decide) _, h13, Or.inr (Or.inr ⟨?_, hpb2, ?_, ?_, rfl⟩)⟩; show dgL (N 6) b p = 0; rw [h6, hd]; exact hj0; show _ = (if ltr (N 6 p) then nI 1 else nI 0); rw [h6]; exact hl; show M 6 p = N 6 p; rw [h6]))
              · refine r_aload_n (pc := 202) dX6_nextToken_202 rfl ?_
                refine gf_X6_94 (pc := 203) dX6_nextToken_203 rfl ?_
                refine r_is (M 6 p) rfl ?_
                refine r_bipush (v := nI 59) (pc := 206) dX6_nextToken_206 (by decide) ?_
                refine r_icmp_ne (tgt := 215) (pc := 208) dX6_nextToken_208 (by decide) (fun h208 => ?_) (fun h208 => ?_)
                · have hl : nI 0 = (if ltr (M 6 p) then nI 1 else nI 0) := (if_neg (by rintro (z | z | z); exact h190 z; exact h199 z; exact h208 z)).symm
                  refine r_iconst (v := nI 0) (pc := 215) dX6_nextToken_215 (by decide) ?_
                  refine pf_X6_91 (pc := 216) dX6_nextToken_216 rfl ?_
                  refine r_aload_n (pc := 219) dX6_nextToken_219 rfl ?_
                  refine r_dup (pc := 220) dX6_nextToken_220 rfl ?_
                  refine gf_X6_85 (pc := 221) dX6_nextToken_221 rfl ?_
                  refine r_is (nI p) (by show N 0 10 = _; rw [h10, hj0]; rfl) ?_
                  refine r_iconst (v := nI 1) (pc := 224) dX6_nextToken_224 (by decide) ?_
                  first | with_reducible refine r_iaddN (pc := 225) dX6_nextToken_225 ?_ | refine r_iadd (pc := 225) dX6_nextToken_225 ?_
                  refine pf_X6_85 (pc := 226) dX6_nextToken_226 rfl ?_
                  exact r_vret (pc := 229) dX6_nextToken_229 rfl (by
                        first
                          | (refine ⟨rfl, hf.put (by decide) (by decide) _, h13, Or.inl ?_⟩; show 0 < dgL (N 6) b p ∧ _ = (if dgL (N 6) b p ≤ 2 then nI 2 else nI 0) ∧ N 0 12 = valF (N 6) p (dgL (N 6) b p) ∧ N 0 10 = nI (p + dgL (N 6) b p); rw [h6, hd, Nat.add_sub_cancel_left]; refine ⟨hj0, ?_, h12, h10⟩; by_cases h2 : j ≤ 2; rw [if_pos h2]; exact if_pos (nI_le h2 (by omega)); rw [if_neg h2]; exact if_neg (fun z => h2 ((nI_leI (by omega) (by omega)).mp z)))
                          | (refine ⟨rfl, hf, h13, Or.inr (Or.inl ⟨by rw [h6, hd]; exact hj0, hpb2, by rw [h11, if_pos (by rw [hpb2])], by rw [h10, hj0]; rfl⟩)⟩)
                          | (refine ⟨rfl, ((hf.put (i := 12) (by decide) (by decide) _).put (i := 11) (by decide) (by decide) _).put (i := 10) (by decide) (by decide) _, h13, Or.inr (Or.inr ⟨?_, hpb2, ?_, ?_, rfl⟩)⟩; show dgL (N 6) b p = 0; rw [h6, hd]; exact hj0; show _ = (if ltr (N 6 p) then nI 1 else nI 0); rw [h6]; exact hl; show M 6 p = N 6 p; rw [h6]))
                · have hl : nI 1 = (if ltr (M 6 p) then nI 1 else nI 0) := (if_pos (Or.inr (Or.inr h208))).symm
                  refine r_iconst (v := nI 1) (pc := 211) dX6_nextToken_211 (by decide) ?_
                  refine r_goto (tgt := 216) (pc := 212) dX6_nextToken_212 (by decide) ?_
                  refine pf_X6_91 (pc := 216) dX6_nextToken_216 rfl ?_
                  refine r_aload_n (pc := 219) dX6_nextToken_219 rfl ?_
                  refine r_dup (pc := 220) dX6_nextToken_220 rfl ?_
                  refine gf_X6_85 (pc := 221) dX6_nextToken_221 rfl ?_
                  refine r_is (nI p) (by show N 0 10 = _; rw [h10, hj0]; rfl) ?_
                  refine r_iconst (v := nI 1) (pc := 224) dX6_nextToken_224 (by decide) ?_
                  first | with_reducible refine r_iaddN (pc := 225) dX6_nextToken_225 ?_ | refine r_iadd (pc := 225) dX6_nextToken_225 ?_
                  refine pf_X6_85 (pc := 226) dX6_nextToken_226 rfl ?_
                  exact r_vret (pc := 229) dX6_nextToken_229 rfl (by
                        first
                          | (refine ⟨rfl, hf.put (by decide) (by decide) _, h13, Or.inl ?_⟩; show 0 < dgL (N 6) b p ∧ _ = (if dgL (N 6) b p ≤ 2 then nI 2 else nI 0) ∧ N 0 12 = valF (N 6) p (dgL (N 6) b p) ∧ N 0 10 = nI (p + dgL (N 6) b p); rw [h6, hd, Nat.add_sub_cancel_left]; refine ⟨hj0, ?_, h12, h10⟩; by_cases h2 : j ≤ 2; rw [if_pos h2]; exact if_pos (nI_le h2 (by omega)); rw [if_neg h2]; exact if_neg (fun z => h2 ((nI_leI (by omega) (by omega)).mp z)))
                          | (refine ⟨rfl, hf, h13, Or.inr (Or.inl ⟨by rw [h6, hd]; exact hj0, hpb2, by rw [h11, if_pos (by rw [hpb2])], by rw [h10, hj0]; rfl⟩)⟩)
                          | (refine ⟨rfl, ((hf.put (i := 12) (by decide) (by decide) _).put (i := 11) (by decide) (by decide) _).put (i := 10) (by decide) (by decide) _, h13, Or.inr (Or.inr ⟨?_, hpb2, ?_, ?_, rfl⟩)⟩; show dgL (N 6) b p = 0; rw [h6, hd]; exact hj0; show _ = (if ltr (N 6 p) then nI 1 else nI 0); rw [h6]; exact hl; show M 6 p = N 6 p; rw [h6]))
        · have hj0 : 0 < j := Nat.pos_of_ne_zero (fun z => h127 (by rw [z]; exact nI_le (by omega) (by omega)))
          have hd := dgL_eq hi hj hx
          refine r_aload_n (pc := 130) dX6_nextToken_130 rfl ?_
          refine r_aload_n (pc := 131) dX6_nextToken_131 rfl ?_
          refine gf_X6_85 (pc := 132) dX6_nextToken_132 rfl ?_
          refine r_is (nI (p + j)) h10 ?_
          refine r_aload_n (pc := 135) dX6_nextToken_135 rfl ?_
          refine gf_X6_88 (pc := 136) dX6_nextToken_136 rfl ?_
          refine r_is (nI p) h13 ?_
          refine r_isubN (pc := 139) dX6_nextToken_139 (by omega) ?_
          refine r_iconst (v := nI 2) (pc := 140) dX6_nextToken_140 (by decide) ?_
          refine t_icmp_le (tgt := 148) (J := 149) (a := ?pA141x3) (b := ?pB141x3) (pc := 141) dX6_nextToken_141 (by decide) (fun k141x3 => ?pT141x3) (fun k141x3 => ?pF141x3) ?pK141x3
          case pT141x3 =>
            refine r_iconst (v := nI 2) (pc := 148) dX6_nextToken_148 (by decide) ?_
            exact k141x3
          case pF141x3 =>
            refine r_iconst (v := nI 0) (pc := 144) dX6_nextToken_144 (by decide) ?_
            refine r_goto (tgt := 149) (pc := 145) dX6_nextToken_145 (by decide) ?_
            exact k141x3
          case pK141x3 =>
            refine pf_X6_91 (pc := 149) dX6_nextToken_149 rfl ?_
            refine r_goto (tgt := 229) (pc := 152) dX6_nextToken_152 (by decide) ?_
            exact r_vret (pc := 229) dX6_nextToken_229 rfl (by
                  first
                    | (refine ⟨rfl, hf.put (by decide) (by decide) _, h13, Or.inl ?_⟩; show 0 < dgL (N 6) b p ∧ _ = (if dgL (N 6) b p ≤ 2 then nI 2 else nI 0) ∧ N 0 12 = valF (N 6) p (dgL (N 6) b p) ∧ N 0 10 = nI (p + dgL (N 6) b p); rw [h6, hd, Nat.add_sub_cancel_left]; refine ⟨hj0, ?_, h12, h10⟩; by_cases h2 : j ≤ 2; rw [if_pos h2]; exact if_pos (nI_le h2 (by omega)); rw [if_neg h2]; exact if_neg (fun z => h2 ((nI_leI (by omega) (by omega)).mp z)))
                    | (refine ⟨rfl, hf, h13, Or.inr (Or.inl ⟨by rw [h6, hd]; exact hj0, hpb2, by rw [h11, if_pos (by rw [hpb2])], by rw [h10, hj0]; rfl⟩)⟩)
                    | (refine ⟨rfl, ((hf.put (i := 12) (by decide) (by decide) _).put (i := 11) (by decide) (by decide) _).put (i := 10) (by decide) (by decide) _, h13, Or.inr (Or.inr ⟨?_, hpb2, ?_, ?_, rfl⟩)⟩; show dgL (N 6) b p = 0; rw [h6, hd]; exact hj0; show _ = (if ltr (N 6 p) then nI 1 else nI 0); rw [h6]; exact hl; show M 6 p = N 6 p; rw [h6]))
      · refine r_aload_n (pc := 66) dX6_nextToken_66 rfl ?_
        refine r_aload_n (pc := 67) dX6_nextToken_67 rfl ?_
        refine gf_X6_94 (pc := 68) dX6_nextToken_68 rfl ?_
        refine r_is (valF (M 6) p j) h12 ?_
        refine r_bipush (v := nI 99) (pc := 71) dX6_nextToken_71 (by decide) ?_
        refine r_icmp_le (tgt := 83) (pc := 73) dX6_nextToken_73 (by decide) (fun h73 => ?_) (fun h73 => ?_)
        · have e9 : nI 10 * valF (M 6) p j + M 6 (p + j) - nI 48 = valF (M 6) p (j + 1) := by rw [valF, if_pos h73]
          refine r_bipush (v := nI 10) (pc := 83) dX6_nextToken_83 (by decide) ?_
          refine r_aload_n (pc := 85) dX6_nextToken_85 rfl ?_
          refine gf_X6_94 (pc := 86) dX6_nextToken_86 rfl ?_
          refine r_is (valF (M 6) p j) h12 ?_
          first | with_reducible refine r_imulN (pc := 89) dX6_nextToken_89 ?_ | refine r_imul (pc := 89) dX6_nextToken_89 ?_
          refine r_aload_n (pc := 90) dX6_nextToken_90 rfl ?_
          refine gf_X6_25 (pc := 91) dX6_nextToken_91 rfl ?_
          refine r_aload_n (pc := 94) dX6_nextToken_94 rfl ?_
          refine gf_X6_85 (pc := 95) dX6_nextToken_95 rfl ?_
          refine r_is (nI (p + j)) h10 ?_
          refine r_iald (pc := 98) dX6_nextToken_98 rfl (show _ < 120 by omega) ?_
          refine r_is (M 6 (p + j)) (by rw [h6]) ?_
          first | with_reducible refine r_iaddN (pc := 99) dX6_nextToken_99 ?_ | refine r_iadd (pc := 99) dX6_nextToken_99 ?_
          refine r_bipush (v := nI 48) (pc := 100) dX6_nextToken_100 (by decide) ?_
          first | (with_reducible refine r_isubN (pc := 102) dX6_nextToken_102 ?hle ?_; case hle => omega) | refine r_isub (pc := 102) dX6_nextToken_102 ?_
          refine r_is (valF (M 6) p (j + 1)) e9 ?_
          refine pf_X6_94 (pc := 103) dX6_nextToken_103 rfl ?_
          refine r_aload_n (pc := 106) dX6_nextToken_106 rfl ?_
          refine r_dup (pc := 107) dX6_nextToken_107 rfl ?_
          refine gf_X6_85 (pc := 108) dX6_nextToken_108 rfl ?_
          refine r_is (nI (p + j)) h10 ?_
          refine r_iconst (v := nI 1) (pc := 111) dX6_nextToken_111 (by decide) ?_
          first | with_reducible refine r_iaddN (pc := 112) dX6_nextToken_112 ?_ | refine r_iadd (pc := 112) dX6_nextToken_112 ?_
          refine pf_X6_85 (pc := 113) dX6_nextToken_113 rfl ?_
          refine r_goto (tgt := 33) (pc := 116) dX6_nextToken_116 (by decide) ?_
          exact V.bk (ih (j + 1, _) ⟨by dsimp only; omega, (hf.put (i := 12) (by decide) (by decide) (valF (M 6) p (j + 1))).put (i := 10) (by decide) (by decide) (nI (p + j + 1)), h13, h11, rfl, rfl, lt_s hi (decide_eq_true h63)⟩ (by dsimp only; omega)) rfl (by (repeat (first | exact wk_0 | refine wk_n ?_ | refine wk_s rfl ?_)); done)
        · have e9 : valF (M 6) p j = valF (M 6) p (j + 1) := by rw [valF, if_neg h73]
          refine r_aload_n (pc := 76) dX6_nextToken_76 rfl ?_
          refine gf_X6_94 (pc := 77) dX6_nextToken_77 rfl ?_
          refine r_is (valF (M 6) p j) h12 ?_
          refine r_goto (tgt := 103) (pc := 80) dX6_nextToken_80 (by decide) ?_
          refine r_is (valF (M 6) p (j + 1)) e9 ?_
          refine pf_X6_94 (pc := 103) dX6_nextToken_103 rfl ?_
          refine r_aload_n (pc := 106) dX6_nextToken_106 rfl ?_
          refine r_dup (pc := 107) dX6_nextToken_107 rfl ?_
          refine gf_X6_85 (pc := 108) dX6_nextToken_108 rfl ?_
          refine r_is (nI (p + j)) h10 ?_
          refine r_iconst (v := nI 1) (pc := 111) dX6_nextToken_111 (by decide) ?_
          first | with_reducible refine r_iaddN (pc := 112) dX6_nextToken_112 ?_ | refine r_iadd (pc := 112) dX6_nextToken_112 ?_
          refine pf_X6_85 (pc := 113) dX6_nextToken_113 rfl ?_
          refine r_goto (tgt := 33) (pc := 116) dX6_nextToken_116 (by decide) ?_
          exact V.bk (ih (j + 1, _) ⟨by dsimp only; omega, (hf.put (i := 12) (by decide) (by decide) (valF (M 6) p (j + 1))).put (i := 10) (by decide) (by decide) (nI (p + j + 1)), h13, h11, rfl, rfl, lt_s hi (decide_eq_true h63)⟩ (by dsimp only; omega)) rfl (by (repeat (first | exact wk_0 | refine wk_n ?_ | refine wk_s rfl ?_)); done)

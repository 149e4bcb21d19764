def upN (p : Nat → Bool) : Nat → Option Nat
  | 0 => none
  | f + 1 => if p (20 - f) = true then some (20 - f) else upN p f
theorem upN_t {p : Nat → Bool} {s : Nat} (hs : s ≤ 20) (h : p s = true) : upN p (21 - s) = some s := by
  rw [show 21 - s = (20 - s) + 1 by omega, upN, show 20 - (20 - s) = s by omega, if_pos h]
theorem upN_f {p : Nat → Bool} {s : Nat} (hs : s ≤ 20) (h : ¬ p s = true) : upN p (21 - s) = upN p (21 - (s + 1)) := by
  rw [show 21 - s = (20 - s) + 1 by omega, upN, show 20 - (20 - s) = s by omega, if_neg h, show 21 - (s + 1) = 20 - s by omega]
/-- whether c with s cushions sits above one so high -/
def upP (S : Nat → Int32) (h : Int32) (b c : Nat) (s : Nat) : Bool := decide (isAb (highB (S (5 + c)) (S (11 + c)) (nI s)) (nI c) h (nI b))
/-- the fewest cushions from the last of the order up -/
def puN (S : Nat → Int32) (c : Nat → Nat) (n : Nat) : Nat → Option (Nat × Int32)
  | 0 => some (0, highS S (c (n - 1)))
  | d + 1 => match puN S c n d with
    | none => none
    | some (t, h) => match upN (upP S h (c (n - 1 - d)) (c (n - 2 - d))) (21 - sfS S (c (n - 2 - d))) with
      | none => none
      | some s => some (t + (s - sfS S (c (n - 2 - d))), highB (S (5 + c (n - 2 - d))) (S (11 + c (n - 2 - d))) (nI s))
theorem puN_no {S : Nat → Int32} {c : Nat → Nat} {n k : Nat} (h : puN S c n k = none) : ∀ d, puN S c n (k + d) = none
  | 0 => h
  | d + 1 => by
    show puN S c n ((k + d) + 1) = none
    rw [puN, puN_no h d]
def puI (S : Nat → Int32) (c : Nat → Nat) (n d : Nat) (sm be hh : Int32) : Prop := (∃ t, puN S c n d = some (t, hh) ∧ t ≤ 20 * d ∧ sm = nI t ∧ be = nI (c (n - 1 - d))) ∨ (puN S c n d = none ∧ sm = cNone)
theorem puI_s {S : Nat → Int32} {c : Nat → Nat} {n d q t s s0 : Nat} {hh : Int32} (hq : n - 1 - d = q + 1) (hd6 : d ≤ 6) (hp : puN S c n d = some (t, hh)) (ht : t ≤ 20 * d) (h0 : S (29 + c q) = nI s0) (hs0 : s0 ≤ s) (hs21 : s ≤ 21)
    (hx : (s = 21 ∧ upN (upP S hh (c (q + 1)) (c q)) (21 - s0) = none) ∨ (s ≤ 20 ∧ upN (upP S hh (c (q + 1)) (c q)) (21 - s0) = some s)) : puI S c n (d + 1) (if nI s ≤ nI 20 then nI (t + s) - S (29 + c q) else cNone) (nI (c q)) (highB (S (5 + c q)) (S (11 + c q)) (nI s)) := by
  have e1 : n - 2 - d = q := by omega
  have hsf : sfS S (c q) = s0 := by unfold sfS; rw [h0, nI_clamp (by omega)]
  rcases hx with ⟨rfl, hd⟩ | ⟨hl, hd⟩
  · refine Or.inr ⟨?_, if_neg (by decide)⟩
    rw [puN, hp]
    dsimp only
    rw [e1, hq, hsf, hd]
  · refine Or.inl ⟨t + (s - s0), ?_, by omega, ?_, by rw [show n - 1 - (d + 1) = q by omega]⟩
    · rw [puN, hp]
      dsimp only
      rw [e1, hq, hsf, hd]
    · rw [if_pos (nI_le hl (by omega)), h0, pk_sub (by omega)]
      congr 1
      omega
theorem sub21 : ∀ n : Nat, n ≤ 6 → 0 < n → nI n - nI 2 = nI (n - 1) - nI 1 := by decide
theorem subm : ∀ m : Nat, m ≤ 6 → (nI m - nI 1 < 0 ↔ m = 0) := by decide
theorem decm : ∀ q : Nat, q ≤ 6 → nI q + Int32.ofInt (-1) = nI q - nI 1 := by decide
def soB (f g : Nat → Int32) : Nat → Bool
  | 0 => true
  | j + 1 => soB f g j && decide (f j = g j)
set_option maxHeartbeats 4000000 in
set_option maxRecDepth 100000 in
theorem c_X6_pile (l : Launch) (G : Gx) (M : Mem) (x i : Int32) (n : Nat) (hn : M 4 2 = nI n) (hn6 : n ≤ 6) (ht : M 0 4 = 0 ↔ n = 0) (hz : ∀ r, r ≤ 7 → M 2 r < 0 ∨ ∃ s, s ≤ 40 ∧ M 2 r = nI s) (hL : ∀ c, c < n → ∃ l, l ≤ 60 ∧ M 4 (11 + c) = nI l) (hF : ∀ c, c < n → ∃ s, s ≤ 20 ∧ M 4 (29 + c) = nI s) : Con l G yX6_pile cX6_pile 11 (some .int) 3 74 [.ref (gA G 0), .int x, .int i] M (fun (v : Option Value) (M' : Mem) => (∃ u, loN M n x i u M' ∧ v = some (Value.int u)) ∨ (∃ r p, loZ M n x i r p ∧ rI (ansO (puN (M 4) (cI (fun j => M 3 (40 * r + p + j))) n (n - 1))) (mset M 0 3 (nI 0)) v M')) := by
  refine Con.ofV [some (.ref (gA G 0)), some (.int x), some (.int i), none, none, none, none, none, none, none, none] RX6 (by decide) rfl (Nat.le_of_ble_eq_true rfl) rfl ?_
  intro κ hl hG hk0 hn0
  subst hl hG
  have hcs : κ.k ≤ 0 ∧ κ.n ≤ 0 := ⟨Nat.le_of_eq hk0, Nat.le_of_eq hn0⟩
  generalize hPP : (fun (v : Option Value) (M' : Mem) => (∃ u, loN M n x i u M' ∧ v = some (Value.int u)) ∨ (∃ r p, loZ M n x i r p ∧ rI (ansO (puN (M 4) (cI (fun j => M 3 (40 * r + p + j))) n (n - 1))) (mset M 0 3 (nI 0)) v M')) = PP
  have J6 : ∀ (u : Int32) (N : Mem), ((u < 0 ∧ PP (some (Value.int u)) N) ∨ (u = nI 0 ∧ M = N ∧ ∃ r p, loZ M n x i r p)) → V κ cX6_pile RX6 11 (some .int) (rmx 3 74) (QM κ PP) N 6 [some (.ref (gA κ.G 0)), some (.int x), some (.int i), none, none, none, none, none, none, none, none] [.int u] := by
    intro u N hu
    refine r_st_n [_, _, _, _, _, _, _, _, _, _, _] (pc := 6) dX6_pile_6 (by decide) rfl rfl ?_
    refine r_iload_n (pc := 7) dX6_pile_7 rfl ?_
    refine r_if_ge (tgt := 13) (pc := 8) dX6_pile_8 (by decide) (fun h8 => ?_) (fun h8 => ?_)
    · obtain ⟨rfl, hMN, r, p, hlz⟩ := hu.resolve_left (fun z => absurd h8 (Int32.not_le.mpr z.1))
      subst hMN
      obtain ⟨hn1, hr, rfl, rfl, hpn, hlc, hok⟩ := id hlz
      have hc := fun j (h : j < n) => okN_c hok h hn6
      refine r_bipush (v := nI 40) (pc := 13) dX6_pile_13 (by decide) ?_
      refine r_iload_n (pc := 15) dX6_pile_15 rfl ?_
      first | with_reducible refine r_imulN (pc := 16) dX6_pile_16 ?_ | refine r_imul (pc := 16) dX6_pile_16 ?_
      refine r_iload_n (pc := 17) dX6_pile_17 rfl ?_
      first | with_reducible refine r_iaddN (pc := 18) dX6_pile_18 ?_ | refine r_iadd (pc := 18) dX6_pile_18 ?_
      refine r_st [_, _, _, _, _, _, _, _, _, _, _] (pc := 19) dX6_pile_19 (by decide) rfl rfl ?_
      refine r_iconst (v := nI 0) (pc := 21) dX6_pile_21 (by decide) ?_
      refine r_st [_, _, _, _, _, _, _, _, _, _, _] (pc := 22) dX6_pile_22 (by decide) rfl rfl ?_
      refine r_aload_n (pc := 24) dX6_pile_24 rfl ?_
      refine gf_X6_16 (pc := 25) dX6_pile_25 rfl ?_
      refine r_iload (pc := 28) dX6_pile_28 rfl ?_
      refine r_aload_n (pc := 30) dX6_pile_30 rfl ?_
      refine gf_X6_19 (pc := 31) dX6_pile_31 rfl ?_
      refine r_iconst (v := nI 2) (pc := 34) dX6_pile_34 (by decide) ?_
      refine r_iald (pc := 35) dX6_pile_35 rfl (show _ < 41 by omega) ?_
      refine r_is (nI n) hn ?_
      first | with_reducible refine r_iaddN (pc := 36) dX6_pile_36 ?_ | refine r_iadd (pc := 36) dX6_pile_36 ?_
      refine r_iconst (v := nI 1) (pc := 37) dX6_pile_37 (by decide) ?_
      first | (with_reducible refine r_isubN (pc := 38) dX6_pile_38 ?hle ?_; case hle => omega) | refine r_isub (pc := 38) dX6_pile_38 ?_
      refine r_iald (pc := 39) dX6_pile_39 rfl (show _ < 320 by omega) ?_
      refine r_is (nI ((cI (fun j => M 3 (40 * r + p + j))) (n - 1))) (by rw [show 40 * r + p + n - 1 = 40 * r + p + (n - 1) by omega]; exact (hc (n - 1) (by omega)).1) ?_
      refine r_st [_, _, _, _, _, _, _, _, _, _, _] (pc := 40) dX6_pile_40 (by decide) rfl rfl ?_
      refine r_aload_n (pc := 42) dX6_pile_42 rfl ?_
      refine r_iload (pc := 43) dX6_pile_43 rfl ?_
      refine iv_X6_146 (c_X6_highOf _ _ _ _ (by have := (hc (n - 1) (by omega)).2; omega)) (pc := 45) dX6_pile_45 rfl ⟨Nat.le_of_ble_eq_true rfl, Nat.le_of_ble_eq_true rfl⟩ (Nat.le_of_ble_eq_true rfl) hcs (kI ?_)
      refine r_st [_, _, _, _, _, _, _, _, _, _, _] (pc := 48) dX6_pile_48 (by decide) rfl rfl ?_
      refine r_aload_n (pc := 50) dX6_pile_50 rfl ?_
      refine gf_X6_19 (pc := 51) dX6_pile_51 rfl ?_
      refine r_iconst (v := nI 2) (pc := 54) dX6_pile_54 (by decide) ?_
      refine r_iald (pc := 55) dX6_pile_55 rfl (show _ < 41 by omega) ?_
      refine r_is (nI n) hn ?_
      refine r_iconst (v := nI 2) (pc := 56) dX6_pile_56 (by decide) ?_
      refine r_isub (pc := 57) dX6_pile_57 ?_
      refine r_is (nI (n - 1) - nI 1) (sub21 n hn6 hn1) ?_
      refine r_st [_, _, _, _, _, _, _, _, _, _, _] (pc := 58) dX6_pile_58 (by decide) rfl rfl ?_
      refine V.bk (loopV (fun (σ : Nat × Int32 × Int32 × Int32) => V κ cX6_pile RX6 11 (some .int) (rmx 3 74) (QM κ PP) M 60 [some (.ref (gA κ.G 0)), some (.int (nI r)), some (.int (nI p)), none, some (.int (nI (40 * r + p))), some (.int (σ.2.1)), some (.int (σ.2.2.1)), some (.int (σ.2.2.2)), some (.int (nI (n - 1 - (σ.1)) - nI 1)), none, none] []) (fun (σ : Nat × Int32 × Int32 × Int32) => (σ.1) ≤ n - 1 ∧ puI (M 4) (cI (fun j => M 3 (40 * r + p + j))) n (σ.1) (σ.2.1) (σ.2.2.1) (σ.2.2.2)) (fun (σ : Nat × Int32 × Int32 × Int32) => n - (σ.1)) ?_ (0, nI 0, _, _) ⟨Nat.zero_le _, Or.inl ⟨0, rfl, by omega, rfl, rfl⟩⟩) rfl (by (repeat (first | exact wk_0 | refine wk_n ?_ | refine wk_s rfl ?_)); done)
      rintro ⟨d, sm, be, hh⟩ hI0 ih
      dsimp only at hI0 ih
      obtain ⟨hdn, hI⟩ := hI0
      show V κ cX6_pile RX6 11 (some .int) (rmx 3 74) (QM κ PP) M 60 [some (.ref (gA κ.G 0)), some (.int (nI r)), some (.int (nI p)), none, some (.int (nI (40 * r + p))), some (.int sm), some (.int be), some (.int hh), some (.int (nI (n - 1 - d) - nI 1)), none, none] []
      refine r_iload (pc := 60) dX6_pile_60 rfl ?_
      refine r_if_lt (tgt := 209) (pc := 62) dX6_pile_62 (by decide) (fun h62 => ?_) (fun h62 => ?_)
      · have h62 : n - 1 - d = 0 := (subm _ (by omega)).mp h62
        refine r_aload_n (pc := 209) dX6_pile_209 rfl ?_
        refine r_iload (pc := 210) dX6_pile_210 rfl ?_
        refine iv_X6_72 (c_X6_well _ _ _ _) (pc := 212) dX6_pile_212 rfl ⟨Nat.le_of_ble_eq_true rfl, Nat.le_of_ble_eq_true rfl⟩ (Nat.le_of_ble_eq_true rfl) hcs (kI ?_)
        exact r_iret (pc := 215) dX6_pile_215 rfl (by subst hPP; exact (Or.inr ⟨r, p, hlz, by
              rcases hI with ⟨t, hst, ht6, rfl, -⟩ | ⟨hst, rfl⟩
              · first
                  | exact absurd h67 (nI_pos (by omega))
                  | (rw [show n - 1 = d by omega, hst]; rfl)
              · rw [show n - 1 = d + (n - 1 - d) by omega, puN_no hst]; rfl, rfl⟩))
      · have h62 : ¬ n - 1 - d = 0 := fun z => h62 ((subm _ (by omega)).mpr z)
        refine r_iload (pc := 65) dX6_pile_65 rfl ?_
        refine r_if_lt (tgt := 209) (pc := 67) dX6_pile_67 (by decide) (fun h67 => ?_) (fun h67 => ?_)
        · refine r_aload_n (pc := 209) dX6_pile_209 rfl ?_
          refine r_iload (pc := 210) dX6_pile_210 rfl ?_
          refine iv_X6_72 (c_X6_well _ _ _ _) (pc := 212) dX6_pile_212 rfl ⟨Nat.le_of_ble_eq_true rfl, Nat.le_of_ble_eq_true rfl⟩ (Nat.le_of_ble_eq_true rfl) hcs (kI ?_)
          exact r_iret (pc := 215) dX6_pile_215 rfl (by subst hPP; exact (Or.inr ⟨r, p, hlz, by
                rcases hI with ⟨t, hst, ht6, rfl, -⟩ | ⟨hst, rfl⟩
                · first
                    | exact absurd h67 (nI_pos (by omega))
                    | (rw [show n - 1 = d by omega, hst]; rfl)
                · rw [show n - 1 = d + (n - 1 - d) by omega, puN_no hst]; rfl, rfl⟩))
        · obtain ⟨t, hst, ht6, rfl, rfl⟩ := hI.resolve_right (fun z => h67 (by rw [z.2]; decide))
          obtain ⟨q, hq⟩ : ∃ q, n - 1 - d = q + 1 := ⟨n - 2 - d, by omega⟩
          obtain ⟨s0, hs0, es⟩ := hF _ (hc q (by omega)).2
          rw [hq]
          refine V.bk (f' := [some (.ref (gA κ.G 0)), some (.int (nI r)), some (.int (nI p)), none, some (.int (nI (40 * r + p))), some (.int (nI t)), some (.int (nI ((cI (fun j => M 3 (40 * r + p + j))) (q + 1)))), some (.int hh), some (.int (nI q)), none, none]) ?_ rfl (wk_s rfl (wk_s rfl (wk_s rfl (wk_n (wk_s rfl (wk_s rfl (wk_s rfl (wk_s rfl (wk_s (by rw [show nI (q + 1) - nI 1 = nI q from nI_pred q]) (wk_n (wk_n wk_0)))))))))))
          refine r_aload_n (pc := 70) dX6_pile_70 rfl ?_
          refine gf_X6_16 (pc := 71) dX6_pile_71 rfl ?_
          refine r_iload (pc := 74) dX6_pile_74 rfl ?_
          refine r_iload (pc := 76) dX6_pile_76 rfl ?_
          first | with_reducible refine r_iaddN (pc := 78) dX6_pile_78 ?_ | refine r_iadd (pc := 78) dX6_pile_78 ?_
          refine r_iald (pc := 79) dX6_pile_79 rfl (show _ < 320 by omega) ?_
          refine r_is (nI ((cI (fun j => M 3 (40 * r + p + j))) q)) (hc q (by omega)).1 ?_
          refine r_st [_, _, _, _, _, _, _, _, _, _, _] (pc := 80) dX6_pile_80 (by decide) rfl rfl ?_
          refine r_aload_n (pc := 82) dX6_pile_82 rfl ?_
          refine gf_X6_19 (pc := 83) dX6_pile_83 rfl ?_
          refine r_bipush (v := nI 29) (pc := 86) dX6_pile_86 (by decide) ?_
          refine r_iload (pc := 88) dX6_pile_88 rfl ?_
          first | with_reducible refine r_iaddN (pc := 90) dX6_pile_90 ?_ | refine r_iadd (pc := 90) dX6_pile_90 ?_
          refine r_iald (pc := 91) dX6_pile_91 rfl (show _ < 41 by (have := (hc q (by omega)).2; omega)) ?_
          refine r_is (nI s0) es ?_
          refine r_st [_, _, _, _, _, _, _, _, _, _, _] (pc := 92) dX6_pile_92 (by decide) rfl rfl ?_
          refine V.bk (loopV (fun (σ : Nat) => V κ cX6_pile RX6 11 (some .int) (rmx 3 74) (QM κ PP) M 94 [some (.ref (gA κ.G 0)), some (.int (nI r)), some (.int (nI p)), none, some (.int (nI (40 * r + p))), some (.int (nI t)), some (.int (nI ((cI (fun j => M 3 (40 * r + p + j))) (q + 1)))), some (.int hh), some (.int (nI q)), some (.int (nI ((cI (fun j => M 3 (40 * r + p + j))) q))), some (.int (nI σ))] []) (fun (σ : Nat) => s0 ≤ σ ∧ σ ≤ 21 ∧ upN (upP (M 4) hh ((cI (fun j => M 3 (40 * r + p + j))) (q + 1)) ((cI (fun j => M 3 (40 * r + p + j))) q)) (21 - s0) = upN (upP (M 4) hh ((cI (fun j => M 3 (40 * r + p + j))) (q + 1)) ((cI (fun j => M 3 (40 * r + p + j))) q)) (21 - σ)) (fun (σ : Nat) => 21 - σ) ?_ s0 ⟨Nat.le_refl _, by omega, rfl⟩) rfl (by (repeat (first | exact wk_0 | refine wk_n ?_ | refine wk_s rfl ?_)); done)
          rintro s ⟨hs1, hs21, eup⟩ ih2
          show V κ cX6_pile RX6 11 (some .int) (rmx 3 74) (QM κ PP) M 94 [some (.ref (gA κ.G 0)), some (.int (nI r)), some (.int (nI p)), none, some (.int (nI (40 * r + p))), some (.int (nI t)), some (.int (nI ((cI (fun j => M 3 (40 * r + p + j))) (q + 1)))), some (.int hh), some (.int (nI q)), some (.int (nI ((cI (fun j => M 3 (40 * r + p + j))) q))), some (.int (nI s))] []
          refine r_iload (pc := 94) dX6_pile_94 rfl ?_
          refine r_bipush (v := nI 20) (pc := 96) dX6_pile_96 (by decide) ?_
          refine r_icmp_gt (tgt := 143) (pc := 98) dX6_pile_98 (by decide) (fun h98 => ?_) (fun h98 => ?_)
          · have hs9 : s = 21 := by have := (nI_ltI (by omega) (by omega)).mp h98; omega
            have hx : (s = 21 ∧ upN (upP (M 4) hh ((cI (fun j => M 3 (40 * r + p + j))) (q + 1)) ((cI (fun j => M 3 (40 * r + p + j))) q)) (21 - s0) = none) ∨ (s ≤ 20 ∧ upN (upP (M 4) hh ((cI (fun j => M 3 (40 * r + p + j))) (q + 1)) ((cI (fun j => M 3 (40 * r + p + j))) q)) (21 - s0) = some s) := Or.inl ⟨hs9, by rw [eup, hs9]; rfl⟩
            refine r_iload (pc := 143) dX6_pile_143 rfl ?_
            refine r_bipush (v := nI 20) (pc := 145) dX6_pile_145 (by decide) ?_
            refine t_icmp_le (tgt := 155) (J := 171) (a := ?pA147x1) (b := ?pB147x1) (pc := 147) dX6_pile_147 (by decide) (fun k147x1 => ?pT147x1) (fun k147x1 => ?pF147x1) ?pK147x1
            case pT147x1 =>
              refine r_iload (pc := 155) dX6_pile_155 rfl ?_
              refine r_iload (pc := 157) dX6_pile_157 rfl ?_
              first | with_reducible refine r_iaddN (pc := 159) dX6_pile_159 ?_ | refine r_iadd (pc := 159) dX6_pile_159 ?_
              refine r_aload_n (pc := 160) dX6_pile_160 rfl ?_
              refine gf_X6_19 (pc := 161) dX6_pile_161 rfl ?_
              refine r_bipush (v := nI 29) (pc := 164) dX6_pile_164 (by decide) ?_
              refine r_iload (pc := 166) dX6_pile_166 rfl ?_
              first | with_reducible refine r_iaddN (pc := 168) dX6_pile_168 ?_ | refine r_iadd (pc := 168) dX6_pile_168 ?_
              refine r_iald (pc := 169) dX6_pile_169 rfl (show _ < 41 by (have := (hc q (by omega)).2; omega)) ?_
              first | (with_reducible refine r_isubN (pc := 170) dX6_pile_170 ?hle ?_; case hle => omega) | refine r_isub (pc := 170) dX6_pile_170 ?_
              exact k147x1
            case pF147x1 =>
              refine r_ldc (pc := 150) dX6_pile_150 lk_X6_149 ?_
              refine r_goto (tgt := 171) (pc := 152) dX6_pile_152 (by decide) ?_
              exact k147x1
            case pK147x1 =>
              refine r_st [_, _, _, _, _, _, _, _, _, _, _] (pc := 171) dX6_pile_171 (by decide) rfl rfl ?_
              refine r_iload (pc := 173) dX6_pile_173 rfl ?_
              refine r_st [_, _, _, _, _, _, _, _, _, _, _] (pc := 175) dX6_pile_175 (by decide) rfl rfl ?_
              refine r_aload_n (pc := 177) dX6_pile_177 rfl ?_
              refine gf_X6_19 (pc := 178) dX6_pile_178 rfl ?_
              refine r_iconst (v := nI 5) (pc := 181) dX6_pile_181 (by decide) ?_
              refine r_iload (pc := 182) dX6_pile_182 rfl ?_
              first | with_reducible refine r_iaddN (pc := 184) dX6_pile_184 ?_ | refine r_iadd (pc := 184) dX6_pile_184 ?_
              refine r_iald (pc := 185) dX6_pile_185 rfl (show _ < 41 by (have := (hc q (by omega)).2; omega)) ?_
              refine r_aload_n (pc := 186) dX6_pile_186 rfl ?_
              refine gf_X6_19 (pc := 187) dX6_pile_187 rfl ?_
              refine r_bipush (v := nI 11) (pc := 190) dX6_pile_190 (by decide) ?_
              refine r_iload (pc := 192) dX6_pile_192 rfl ?_
              first | with_reducible refine r_iaddN (pc := 194) dX6_pile_194 ?_ | refine r_iadd (pc := 194) dX6_pile_194 ?_
              refine r_iald (pc := 195) dX6_pile_195 rfl (show _ < 41 by (have := (hc q (by omega)).2; omega)) ?_
              refine r_iload (pc := 196) dX6_pile_196 rfl ?_
              refine iv_X6_142 (c_X6_highBy _ _ _ _ _ _) (pc := 198) dX6_pile_198 ⟨Nat.le_of_ble_eq_true rfl, Nat.le_of_ble_eq_true rfl⟩ (Nat.le_of_ble_eq_true rfl) hcs (kI ?_)
              refine r_st [_, _, _, _, _, _, _, _, _, _, _] (pc := 201) dX6_pile_201 (by decide) rfl rfl ?_
              refine r_inc [_, _, _, _, _, _, _, _, _, _, _] (pc := 203) dX6_pile_203 rfl (decm q (by omega)) (by decide) rfl rfl ?_
              rw [show nI q - nI 1 = nI (n - 1 - (d + 1)) - nI 1 by rw [show n - 1 - (d + 1) = q by omega]]
              refine r_goto (tgt := 60) (pc := 206) dX6_pile_206 (by decide) ?_
              exact V.bk (ih (d + 1, _, _, _) ⟨by omega, puI_s hq (by omega) hst ht6 es hs1 hs21 hx⟩ (by omega)) rfl (by (repeat (first | exact wk_0 | refine wk_n ?_ | refine wk_s rfl ?_)); done)
          · have h98 : s ≤ 20 := Nat.not_lt.mp (fun z => h98 ((nI_ltI (by omega) (by omega)).mpr z))
            refine r_aload_n (pc := 101) dX6_pile_101 rfl ?_
            refine gf_X6_19 (pc := 102) dX6_pile_102 rfl ?_
            refine r_iconst (v := nI 5) (pc := 105) dX6_pile_105 (by decide) ?_
            refine r_iload (pc := 106) dX6_pile_106 rfl ?_
            first | with_reducible refine r_iaddN (pc := 108) dX6_pile_108 ?_ | refine r_iadd (pc := 108) dX6_pile_108 ?_
            refine r_iald (pc := 109) dX6_pile_109 rfl (show _ < 41 by (have := (hc q (by omega)).2; omega)) ?_
            refine r_aload_n (pc := 110) dX6_pile_110 rfl ?_
            refine gf_X6_19 (pc := 111) dX6_pile_111 rfl ?_
            refine r_bipush (v := nI 11) (pc := 114) dX6_pile_114 (by decide) ?_
            refine r_iload (pc := 116) dX6_pile_116 rfl ?_
            first | with_reducible refine r_iaddN (pc := 118) dX6_pile_118 ?_ | refine r_iadd (pc := 118) dX6_pile_118 ?_
            refine r_iald (pc := 119) dX6_pile_119 rfl (show _ < 41 by (have := (hc q (by omega)).2; omega)) ?_
            refine r_iload (pc := 120) dX6_pile_120 rfl ?_
            refine iv_X6_142 (c_X6_highBy _ _ _ _ _ _) (pc := 122) dX6_pile_122 ⟨Nat.le_of_ble_eq_true rfl, Nat.le_of_ble_eq_true rfl⟩ (Nat.le_of_ble_eq_true rfl) hcs (kI ?_)
            refine r_iload (pc := 125) dX6_pile_125 rfl ?_
            refine r_iload (pc := 127) dX6_pile_127 rfl ?_
            refine r_iload (pc := 129) dX6_pile_129 rfl ?_
            refine iv_X6_226 (c_X6_isAbove _ _ _ _ _ _ _) (pc := 131) dX6_pile_131 ⟨Nat.le_of_ble_eq_true rfl, Nat.le_of_ble_eq_true rfl⟩ (Nat.le_of_ble_eq_true rfl) hcs (kI ?_)
            refine r_ifne_b (tgt := 143) (pc := 134) dX6_pile_134 (by decide) (fun h134 => ?_) (fun h134 => ?_)
            · have hx : (s = 21 ∧ upN (upP (M 4) hh ((cI (fun j => M 3 (40 * r + p + j))) (q + 1)) ((cI (fun j => M 3 (40 * r + p + j))) q)) (21 - s0) = none) ∨ (s ≤ 20 ∧ upN (upP (M 4) hh ((cI (fun j => M 3 (40 * r + p + j))) (q + 1)) ((cI (fun j => M 3 (40 * r + p + j))) q)) (21 - s0) = some s) := Or.inr ⟨h98, eup.trans (upN_t h98 (decide_eq_true h134))⟩
              refine r_iload (pc := 143) dX6_pile_143 rfl ?_
              refine r_bipush (v := nI 20) (pc := 145) dX6_pile_145 (by decide) ?_
              refine t_icmp_le (tgt := 155) (J := 171) (a := ?pA147x2) (b := ?pB147x2) (pc := 147) dX6_pile_147 (by decide) (fun k147x2 => ?pT147x2) (fun k147x2 => ?pF147x2) ?pK147x2
              case pT147x2 =>
                refine r_iload (pc := 155) dX6_pile_155 rfl ?_
                refine r_iload (pc := 157) dX6_pile_157 rfl ?_
                first | with_reducible refine r_iaddN (pc := 159) dX6_pile_159 ?_ | refine r_iadd (pc := 159) dX6_pile_159 ?_
                refine r_aload_n (pc := 160) dX6_pile_160 rfl ?_
                refine gf_X6_19 (pc := 161) dX6_pile_161 rfl ?_
                refine r_bipush (v := nI 29) (pc := 164) dX6_pile_164 (by decide) ?_
                refine r_iload (pc := 166) dX6_pile_166 rfl ?_
                first | with_reducible refine r_iaddN (pc := 168) dX6_pile_168 ?_ | refine r_iadd (pc := 168) dX6_pile_168 ?_
                refine r_iald (pc := 169) dX6_pile_169 rfl (show _ < 41 by (have := (hc q (by omega)).2; omega)) ?_
                first | (with_reducible refine r_isubN (pc := 170) dX6_pile_170 ?hle ?_; case hle => omega) | refine r_isub (pc := 170) dX6_pile_170 ?_
                exact k147x2
              case pF147x2 =>
                refine r_ldc (pc := 150) dX6_pile_150 lk_X6_149 ?_
                refine r_goto (tgt := 171) (pc := 152) dX6_pile_152 (by decide) ?_
                exact k147x2
              case pK147x2 =>
                refine r_st [_, _, _, _, _, _, _, _, _, _, _] (pc := 171) dX6_pile_171 (by decide) rfl rfl ?_
                refine r_iload (pc := 173) dX6_pile_173 rfl ?_
                refine r_st [_, _, _, _, _, _, _, _, _, _, _] (pc := 175) dX6_pile_175 (by decide) rfl rfl ?_
                refine r_aload_n (pc := 177) dX6_pile_177 rfl ?_
                refine gf_X6_19 (pc := 178) dX6_pile_178 rfl ?_
                refine r_iconst (v := nI 5) (pc := 181) dX6_pile_181 (by decide) ?_
                refine r_iload (pc := 182) dX6_pile_182 rfl ?_
                first | with_reducible refine r_iaddN (pc := 184) dX6_pile_184 ?_ | refine r_iadd (pc := 184) dX6_pile_184 ?_
                refine r_iald (pc := 185) dX6_pile_185 rfl (show _ < 41 by (have := (hc q (by omega)).2; omega)) ?_
                refine r_aload_n (pc := 186) dX6_pile_186 rfl ?_
                refine gf_X6_19 (pc := 187) dX6_pile_187 rfl ?_
                refine r_bipush (v := nI 11) (pc := 190) dX6_pile_190 (by decide) ?_
                refine r_iload (pc := 192) dX6_pile_192 rfl ?_
                first | with_reducible refine r_iaddN (pc := 194) dX6_pile_194 ?_ | refine r_iadd (pc := 194) dX6_pile_194 ?_
                refine r_iald (pc := 195) dX6_pile_195 rfl (show _ < 41 by (have := (hc q (by omega)).2; omega)) ?_
                refine r_iload (pc := 196) dX6_pile_196 rfl ?_
                refine iv_X6_142 (c_X6_highBy _ _ _ _ _ _) (pc := 198) dX6_pile_198 ⟨Nat.le_of_ble_eq_true rfl, Nat.le_of_ble_eq_true rfl⟩ (Nat.le_of_ble_eq_true rfl) hcs (kI ?_)
                refine r_st [_, _, _, _, _, _, _, _, _, _, _] (pc := 201) dX6_pile_201 (by decide) rfl rfl ?_
                refine r_inc [_, _, _, _, _, _, _, _, _, _, _] (pc := 203) dX6_pile_203 rfl (decm q (by omega)) (by decide) rfl rfl ?_
                rw [show nI q - nI 1 = nI (n - 1 - (d + 1)) - nI 1 by rw [show n - 1 - (d + 1) = q by omega]]
                refine r_goto (tgt := 60) (pc := 206) dX6_pile_206 (by decide) ?_
                exact V.bk (ih (d + 1, _, _, _) ⟨by omega, puI_s hq (by omega) hst ht6 es hs1 hs21 hx⟩ (by omega)) rfl (by (repeat (first | exact wk_0 | refine wk_n ?_ | refine wk_s rfl ?_)); done)
            · have eup2 : upN (upP (M 4) hh ((cI (fun j => M 3 (40 * r + p + j))) (q + 1)) ((cI (fun j => M 3 (40 * r + p + j))) q)) (21 - s0) = upN (upP (M 4) hh ((cI (fun j => M 3 (40 * r + p + j))) (q + 1)) ((cI (fun j => M 3 (40 * r + p + j))) q)) (21 - (s + 1)) := eup.trans (upN_f h98 (fun z => h134 (of_decide_eq_true z)))
              first | refine r_inc [_, _, _, _, _, _, _, _, _, _, _] (pc := 137) dX6_pile_137 rfl (nI_inc _) (by decide) rfl rfl ?_ | refine r_inc [_, _, _, _, _, _, _, _, _, _, _] (pc := 137) dX6_pile_137 rfl rfl (by decide) rfl rfl ?_
              refine r_goto (tgt := 94) (pc := 140) dX6_pile_140 (by decide) ?_
              exact V.bk (ih2 (s + 1) ⟨by omega, by omega, eup2⟩ (by omega)) rfl (by (repeat (first | exact wk_0 | refine wk_n ?_ | refine wk_s rfl ?_)); done)
    · refine r_iload_n (pc := 11) dX6_pile_11 rfl ?_
      exact r_iret (pc := 12) dX6_pile_12 rfl (by subst hPP; exact (hu.elim (fun z => z.2) (fun z => absurd (by rw [z.1]; decide) h8)))
  refine r_aload_n (pc := 0) dX6_pile_0 rfl ?_
  refine r_iload_n (pc := 1) dX6_pile_1 rfl ?_
  refine r_iload_n (pc := 2) dX6_pile_2 rfl ?_
  refine iv_X6_223 (c_X6_lacksOrder _ _ _ _ _ n hn hn6 ht hz) (pc := 3) dX6_pile_3 rfl ⟨Nat.le_of_ble_eq_true rfl, Nat.le_of_ble_eq_true rfl⟩ (Nat.le_of_ble_eq_true rfl) hcs (fun v3 N3 h3 => ?_)
  rcases h3 with ⟨u, hlo, rfl⟩ | ⟨r, p, hz0, rfl, rfl⟩
  · exact J6 _ _ (Or.inl ⟨loN_neg hlo, by subst hPP; exact Or.inl ⟨_, hlo, rfl⟩⟩)
  · exact J6 _ _ (Or.inr ⟨rfl, rfl, r, p, hz0⟩)
set_option maxHeartbeats 4000000 in
set_option maxRecDepth 100000 in
theorem d_X6_isSo (l : Launch) (G : Gx) (M : Mem) (A : Mem) (S : Nat → Int32) (k t m n : Nat) (hk : k < 6) (ht : t + m ≤ 320) (hm : m ≤ 12) (hN0 : rs A S M) (hn : S 2 = nI n) (hn6 : n ≤ 6) (hn1 : 0 < n) : Con l G yX6_isSo cX6_isSo 6 (some .boolean) 6 134 [.ref (gA G 0), .int (nI k), .int (nI t), .int (nI m)] M (qI (bI (soB (fun i => A 3 (t + i)) (fun i => highS (goP S n (i + 1)) k) m = true)) (rs A (A 4))) := by
  refine Con.ofV [some (.ref (gA G 0)), some (.int (nI k)), some (.int (nI t)), some (.int (nI m)), none, none] RX6 (by decide) rfl (Nat.le_of_ble_eq_true rfl) rfl ?_
  intro κ hl hG hk0 hn0
  subst hl hG
  have hcs : κ.k ≤ 0 ∧ κ.n ≤ 0 := ⟨Nat.le_of_eq hk0, Nat.le_of_eq hn0⟩
  refine r_iconst (v := nI 1) (pc := 0) dX6_isSo_0 (by decide) ?_
  refine r_st [_, _, _, _, _, _] (pc := 1) dX6_isSo_1 (by decide) rfl rfl ?_
  refine r_iconst (v := nI 0) (pc := 3) dX6_isSo_3 (by decide) ?_
  refine r_st [_, _, _, _, _, _] (pc := 4) dX6_isSo_4 (by decide) rfl rfl ?_
  refine V.bk (loopV (fun (σ : Nat × Mem) => V κ cX6_isSo RX6 6 (some .boolean) (rmx 6 134) (QM κ (qI (bI (soB (fun i => A 3 (t + i)) (fun i => highS (goP S n (i + 1)) k) m = true)) (rs A (A 4)))) (σ.2) 6 [some (.ref (gA κ.G 0)), some (.int (nI k)), some (.int (nI t)), some (.int (nI m)), some (.int (bI (soB (fun i => A 3 (t + i)) (fun i => highS (goP S n (i + 1)) k) (σ.1) = true))), some (.int (nI (σ.1)))] []) (fun (σ : Nat × Mem) => (σ.1) ≤ m ∧ rs A (goP S n (σ.1)) (σ.2)) (fun (σ : Nat × Mem) => m - (σ.1)) ?_ (0, M) ⟨Nat.zero_le _, hN0⟩) rfl (by (repeat (first | exact wk_0 | refine wk_n ?_ | refine wk_s rfl ?_)); done)
  rintro ⟨j, N⟩ hI0 ih
  dsimp only at hI0 ih
  obtain ⟨hj, hN⟩ := hI0
  show V κ cX6_isSo RX6 6 (some .boolean) (rmx 6 134) (QM κ (qI (bI (soB (fun i => A 3 (t + i)) (fun i => highS (goP S n (i + 1)) k) m = true)) (rs A (A 4)))) N 6 [some (.ref (gA κ.G 0)), some (.int (nI k)), some (.int (nI t)), some (.int (nI m)), some (.int (bI (soB (fun i => A 3 (t + i)) (fun i => highS (goP S n (i + 1)) k) j = true))), some (.int (nI j))] []
  refine r_iload (pc := 6) dX6_isSo_6 rfl ?_
  refine r_iload_n (pc := 8) dX6_isSo_8 rfl ?_
  refine r_icmp_ge (tgt := 51) (pc := 9) dX6_isSo_9 (by decide) (fun h9 => ?_) (fun h9 => ?_)
  · have h9 : m ≤ j := (nI_leI (by omega) (by omega)).mp h9
    obtain rfl : m = j := by omega
    refine r_aload_n (pc := 51) dX6_isSo_51 rfl ?_
    refine iv_X6_199 (d_X6_takeBack _ _ A _ _ hN) (pc := 52) dX6_isSo_52 rfl ⟨Nat.le_of_ble_eq_true rfl, Nat.le_of_ble_eq_true rfl⟩ (Nat.le_of_ble_eq_true rfl) hcs (kqV (fun N52 r52 => ?_))
    refine r_iload (pc := 55) dX6_isSo_55 rfl ?_
    exact r_zret (pc := 57) dX6_isSo_57 rfl (by first | rfl | exact bI_narrow) ⟨rfl, r52⟩
  · have h9 : j < m := Nat.not_le.mp (fun z => h9 ((nI_leI (by omega) (by omega)).mpr z))
    refine r_aload_n (pc := 12) dX6_isSo_12 rfl ?_
    refine iv_X6_175 (d_X6_oneNight _ _ A _ _ n hN ((goP_2 S n j).trans hn) hn6 hn1) (pc := 13) dX6_isSo_13 rfl ⟨Nat.le_of_ble_eq_true rfl, Nat.le_of_ble_eq_true rfl⟩ (Nat.le_of_ble_eq_true rfl) hcs (kqV (fun N13 r13 => ?_))
    refine r_iload (pc := 16) dX6_isSo_16 rfl ?_
    refine r_ifeq_b (tgt := 42) (pc := 18) dX6_isSo_18 (by decide) (fun h18 => ?_) (fun h18 => ?_)
    · have e9 : bI (soB (fun i => A 3 (t + i)) (fun i => highS (goP S n (i + 1)) k) (j + 1) = true) = nI 0 := bI_f (fun z => h18 (by rw [soB, Bool.and_eq_true] at z; exact z.1))
      refine r_iconst (v := nI 0) (pc := 42) dX6_isSo_42 (by decide) ?_
      refine r_st [_, _, _, _, _, _] (pc := 43) dX6_isSo_43 (by decide) rfl rfl ?_
      first | refine r_inc [_, _, _, _, _, _] (pc := 45) dX6_isSo_45 rfl (nI_inc _) (by decide) rfl rfl ?_ | refine r_inc [_, _, _, _, _, _] (pc := 45) dX6_isSo_45 rfl rfl (by decide) rfl rfl ?_
      refine r_goto (tgt := 6) (pc := 48) dX6_isSo_48 (by decide) ?_
      exact V.bk (ih (j + 1, N13) ⟨by omega, r13⟩ (by omega)) rfl (wk_s rfl (wk_s rfl (wk_s rfl (wk_s rfl (wk_s (by rw [e9]) (wk_s rfl wk_0))))))
    · refine r_aload_n (pc := 21) dX6_isSo_21 rfl ?_
      refine gf_X6_16 (pc := 22) dX6_isSo_22 rfl ?_
      refine r_iload_n (pc := 25) dX6_isSo_25 rfl ?_
      refine r_iload (pc := 26) dX6_isSo_26 rfl ?_
      first | with_reducible refine r_iaddN (pc := 28) dX6_isSo_28 ?_ | refine r_iadd (pc := 28) dX6_isSo_28 ?_
      refine r_iald (pc := 29) dX6_isSo_29 rfl (show _ < 320 by omega) ?_
      refine r_is (A 3 (t + j)) (by rw [r13.2.2.2.1 3 (by decide) (by decide) (by decide) (by decide)]) ?_
      refine r_aload_n (pc := 30) dX6_isSo_30 rfl ?_
      refine r_iload_n (pc := 31) dX6_isSo_31 rfl ?_
      refine iv_X6_146 (c_X6_highOf _ _ _ _ (by omega)) (pc := 32) dX6_isSo_32 rfl ⟨Nat.le_of_ble_eq_true rfl, Nat.le_of_ble_eq_true rfl⟩ (Nat.le_of_ble_eq_true rfl) hcs (kI ?_)
      refine r_is (highS (goP S n (j + 1)) k) (by rw [r13.1]; rfl) ?_
      refine r_icmp_ne (tgt := 42) (pc := 35) dX6_isSo_35 (by decide) (fun h35 => ?_) (fun h35 => ?_)
      · have e9 : bI (soB (fun i => A 3 (t + i)) (fun i => highS (goP S n (i + 1)) k) (j + 1) = true) = nI 0 := bI_f (fun z => h35 (by rw [soB, Bool.and_eq_true] at z; exact of_decide_eq_true z.2))
        refine r_iconst (v := nI 0) (pc := 42) dX6_isSo_42 (by decide) ?_
        refine r_st [_, _, _, _, _, _] (pc := 43) dX6_isSo_43 (by decide) rfl rfl ?_
        first | refine r_inc [_, _, _, _, _, _] (pc := 45) dX6_isSo_45 rfl (nI_inc _) (by decide) rfl rfl ?_ | refine r_inc [_, _, _, _, _, _] (pc := 45) dX6_isSo_45 rfl rfl (by decide) rfl rfl ?_
        refine r_goto (tgt := 6) (pc := 48) dX6_isSo_48 (by decide) ?_
        exact V.bk (ih (j + 1, N13) ⟨by omega, r13⟩ (by omega)) rfl (wk_s rfl (wk_s rfl (wk_s rfl (wk_s rfl (wk_s (by rw [e9]) (wk_s rfl wk_0))))))
      · have e9 : bI (soB (fun i => A 3 (t + i)) (fun i => highS (goP S n (i + 1)) k) (j + 1) = true) = nI 1 := bI_t (by rw [soB, Bool.and_eq_true]; exact ⟨h18, decide_eq_true h35⟩)
        refine r_iconst (v := nI 1) (pc := 38) dX6_isSo_38 (by decide) ?_
        refine r_goto (tgt := 43) (pc := 39) dX6_isSo_39 (by decide) ?_
        refine r_st [_, _, _, _, _, _] (pc := 43) dX6_isSo_43 (by decide) rfl rfl ?_
        first | refine r_inc [_, _, _, _, _, _] (pc := 45) dX6_isSo_45 rfl (nI_inc _) (by decide) rfl rfl ?_ | refine r_inc [_, _, _, _, _, _] (pc := 45) dX6_isSo_45 rfl rfl (by decide) rfl rfl ?_
        refine r_goto (tgt := 6) (pc := 48) dX6_isSo_48 (by decide) ?_
        exact V.bk (ih (j + 1, N13) ⟨by omega, r13⟩ (by omega)) rfl (wk_s rfl (wk_s rfl (wk_s rfl (wk_s rfl (wk_s (by rw [e9]) (wk_s rfl wk_0))))))

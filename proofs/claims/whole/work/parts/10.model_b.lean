theorem mset_setA (M : Mem) (k j : Nat) (g : Nat → Int32) (v : Int32) : mset (setA M k g) k j v = setA M k (upd g j v) := by
  funext q
  unfold mset
  by_cases h : q = k
  · subst h
    rw [setA_eq, setA_eq, setA_eq]
  · rw [setA_ne _ _ h, setA_ne _ _ h, setA_ne _ _ h]
theorem setA_setA (M : Mem) (k : Nat) (g h : Nat → Int32) : setA (setA M k g) k h = setA M k h := by
  funext q
  by_cases e : q = k
  · subst e
    rw [setA_eq, setA_eq]
  · rw [setA_ne _ _ e, setA_ne _ _ e, setA_ne _ _ e]
theorem setA_comm (M : Mem) {a b : Nat} (g h : Nat → Int32) (e : a ≠ b) : setA (setA M a g) b h = setA (setA M b h) a g := by
  funext q
  unfold setA
  by_cases h1 : q = a
  · subst h1
    rw [if_neg e, if_pos rfl, if_pos rfl]
  · rw [if_neg h1, if_neg h1]
theorem setA_id (M : Mem) (k : Nat) : setA M k (M k) = M := by
  funext q
  unfold setA
  by_cases e : q = k
  · subst e
    rw [if_pos rfl]
  · rw [if_neg e]
theorem setA_id' (M : Mem) {k : Nat} {g : Nat → Int32} (h : g = M k) : setA M k g = M := by rw [h, setA_id]
theorem atN_is (S : Nat → Int32) (n : Nat) (r : Int32) : ∀ m, atN S n r m = cNone ∨ ∃ c, c < m ∧ atN S n r m = nI c
  | 0 => Or.inl rfl
  | m + 1 => by
    unfold atN
    split
    · exact Or.inr ⟨m, Nat.lt_succ_self _, rfl⟩
    · rcases atN_is S n r m with h | ⟨c, h1, h2⟩
      · exact Or.inl h
      · exact Or.inr ⟨c, by omega, h2⟩
theorem whoS_is (S : Nat → Int32) {n c : Nat} (h1 : 0 < n) : whoS S n c = cNone ∨ ∃ d, d < n ∧ whoS S n c = nI d := by
  unfold whoS
  split
  · exact atN_is S n _ n
  · split
    · exact atN_is S n _ n
    · split
      · exact Or.inr ⟨_, Nat.mod_lt _ h1, rfl⟩
      · exact Or.inl rfl
theorem tgtS_is (S : Nat → Int32) {n c : Nat} (h1 : 0 < n) : tgtS S n c = cNone ∨ ∃ d, d < n ∧ tgtS S n c = nI d := by
  unfold tgtS
  split
  · exact Or.inl rfl
  · exact whoS_is S h1
theorem tgtS_nn (S : Nat → Int32) {n c : Nat} (h1 : 0 < n) (h : ¬ tgtS S n c < 0) : ∃ d, d < n ∧ tgtS S n c = nI d := by
  rcases tgtS_is S (c := c) h1 with e | e
  · rw [e] at h
    exact absurd (by decide) h
  · exact e
/-- whether the sitter s is caught -/
abbrev isC (S : Nat → Int32) (n s : Nat) : Prop := ¬ tgtS S n s < 0 ∧ hasB (S 4) (tgtS S n s)
def cgtN (S : Nat → Int32) (n : Nat) : Nat → Int32
  | 0 => nI 0
  | s + 1 => cgtN S n s ||| (if isC S n s then nI 1 <<< (nI s &&& 31) else nI 0)
def offN (S : Nat → Int32) (n : Nat) (b : Nat → Int32) : Nat → Nat → Int32
  | 0 => b
  | s + 1 => if ¬ tgtS S n s < 0 ∧ ¬ isC S n s then upd (offN S n b s) (tgtS S n s).toNatClampNeg (offN S n b s (tgtS S n s).toNatClampNeg + sawnS S s (tgtS S n s).toNatClampNeg) else offN S n b s
/-- the first c chairs behind a night -/
def nightN (S off : Nat → Int32) (cg : Int32) : Nat → Nat → Int32
  | 0 => S
  | c + 1 => upd (upd (upd (nightN S off cg c) (11 + c) (if 0 ≤ nightN S off cg c (11 + c) - off c then nightN S off cg c (11 + c) - off c else nI 0)) (17 + c) (nightN S off cg c (17 + c) - (if hasB cg (nI c) then nI 1 else nI 0))) (35 + c) (nightN S off cg c (35 + c) + (if hasB cg (nI c) then nI 1 else nI 0))
def nightS (S b : Nat → Int32) (n : Nat) : Nat → Int32 := upd (nightN S (offN S n b n) (cgtN S n n) n) 3 (nightN S (offN S n b n) (cgtN S n n) n 3 + nI 1)
def zerA (b : Nat → Int32) (n : Nat) : Nat → Int32 := pt b (fun _ => nI 0) n
def nightM (M : Mem) (n : Nat) : Mem := setA (setA (mset M 0 17 (cgtN (M 4) n n)) 8 (offN (M 4) n (zerA (M 8) n) n)) 4 (nightS (M 4) (zerA (M 8) n) n)
set_option maxHeartbeats 4000000 in
set_option maxRecDepth 100000 in
theorem c_X6_targetOf (l : Launch) (G : Gx) (M : Mem) (k n : Nat) (hk : k < 6) (hn : M 4 2 = nI n) (hn6 : n ≤ 6) (hn1 : 0 < n) : Con l G yX6_targetOf cX6_targetOf 3 (some .int) 4 89 [.ref (gA G 0), .int (nI k)] M (rI (tgtS (M 4) n k) M) := by
  refine Con.ofV [some (.ref (gA G 0)), some (.int (nI k)), none] RX6 (by decide) rfl (Nat.le_of_ble_eq_true rfl) rfl ?_
  intro κ hl hG hk0 hn0
  subst hl hG
  have hcs : κ.k ≤ 0 ∧ κ.n ≤ 0 := ⟨Nat.le_of_eq hk0, Nat.le_of_eq hn0⟩
  refine r_ldc (pc := 0) dX6_targetOf_0 lk_X6_149 ?_
  refine r_st_n [_, _, _] (pc := 2) dX6_targetOf_2 (by decide) rfl rfl ?_
  have J78 : ∀ x : Int32, x = whoS (M 4) n k → V κ cX6_targetOf RX6 3 (some .int) (rmx 4 89) (QM κ (rI (tgtS (M 4) n k) M)) M 78 [some (.ref (gA κ.G 0)), some (.int (nI k)), some (.int x)] [] := by
    rintro _ rfl
    refine r_aload_n (pc := 78) dX6_targetOf_78 rfl ?_
    refine gf_X6_19 (pc := 79) dX6_targetOf_79 rfl ?_
    refine r_bipush (v := nI 17) (pc := 82) dX6_targetOf_82 (by decide) ?_
    refine r_iload_n (pc := 84) dX6_targetOf_84 rfl ?_
    first | with_reducible refine r_iaddN (pc := 85) dX6_targetOf_85 ?_ | refine r_iadd (pc := 85) dX6_targetOf_85 ?_
    refine r_iald (pc := 86) dX6_targetOf_86 rfl (show _ < 41 by omega) ?_
    refine r_if_eq (tgt := 95) (pc := 87) dX6_targetOf_87 (by decide) (fun h87 => ?_) (fun h87 => ?_)
    · have e : tgtS (M 4) n k = cNone := if_pos (Or.inl h87)
      refine r_ldc (pc := 95) dX6_targetOf_95 lk_X6_149 ?_
      refine r_goto (tgt := 101) (pc := 97) dX6_targetOf_97 (by decide) ?_
      exact r_iret (pc := 101) dX6_targetOf_101 rfl ⟨by rw [e], rfl⟩
    · refine r_iload_n (pc := 90) dX6_targetOf_90 rfl ?_
      refine r_iload_n (pc := 91) dX6_targetOf_91 rfl ?_
      refine r_icmp_ne (tgt := 100) (pc := 92) dX6_targetOf_92 (by decide) (fun h92 => ?_) (fun h92 => ?_)
      · have e : tgtS (M 4) n k = whoS (M 4) n k := if_neg (fun z => z.elim h87 h92)
        refine r_iload_n (pc := 100) dX6_targetOf_100 rfl ?_
        exact r_iret (pc := 101) dX6_targetOf_101 rfl ⟨by rw [e], rfl⟩
      · have e : tgtS (M 4) n k = cNone := if_pos (Or.inr h92)
        refine r_ldc (pc := 95) dX6_targetOf_95 lk_X6_149 ?_
        refine r_goto (tgt := 101) (pc := 97) dX6_targetOf_97 (by decide) ?_
        exact r_iret (pc := 101) dX6_targetOf_101 rfl ⟨by rw [e], rfl⟩
  refine r_aload_n (pc := 3) dX6_targetOf_3 rfl ?_
  refine gf_X6_19 (pc := 4) dX6_targetOf_4 rfl ?_
  refine r_bipush (v := nI 23) (pc := 7) dX6_targetOf_7 (by decide) ?_
  refine r_iload_n (pc := 9) dX6_targetOf_9 rfl ?_
  first | with_reducible refine r_iaddN (pc := 10) dX6_targetOf_10 ?_ | refine r_iadd (pc := 10) dX6_targetOf_10 ?_
  refine r_iald (pc := 11) dX6_targetOf_11 rfl (show _ < 41 by omega) ?_
  refine r_tsw (lo := 1) (hi := 3) (tgt := 78) (pc := 12) dX6_targetOf_12 (by decide) (fun h12 => ?_) (fun q12 a12 b12 h12 => ?_)
  · have hw : cNone = whoS (M 4) n k := by rw [whoS, if_neg (h12 1 (by omega) (by omega) (by omega)), if_neg (h12 2 (by omega) (by omega) (by omega)), if_neg (h12 3 (by omega) (by omega) (by omega))]
    exact J78 _ hw
  · rcases (show q12 = 1 ∨ q12 = 2 ∨ q12 = 3 by omega) with rfl | rfl | rfl
    · refine r_tableIn (off := 28) (tgt := 40) (pc := 12) dX6_targetOf_12 (by decide) (by decide) rfl (by decide) ?_
      have hw : atN (M 4) n (nI (rankN (M 4) k n) - nI 1) n = whoS (M 4) n k := by rw [whoS, if_pos h12]
      refine r_aload_n (pc := 40) dX6_targetOf_40 rfl ?_
      refine r_aload_n (pc := 41) dX6_targetOf_41 rfl ?_
      refine r_iload_n (pc := 42) dX6_targetOf_42 rfl ?_
      refine iv_X6_150 (c_X6_rankOf _ _ _ _ n (by omega) hn hn6) (pc := 43) dX6_targetOf_43 rfl ⟨Nat.le_of_ble_eq_true rfl, Nat.le_of_ble_eq_true rfl⟩ (Nat.le_of_ble_eq_true rfl) hcs (kI ?_)
      refine r_iconst (v := nI 1) (pc := 46) dX6_targetOf_46 (by decide) ?_
      refine r_isub (pc := 47) dX6_targetOf_47 ?_
      refine iv_X6_153 (c_X6_atRank _ _ _ _ n hn hn6) (pc := 48) dX6_targetOf_48 rfl ⟨Nat.le_of_ble_eq_true rfl, Nat.le_of_ble_eq_true rfl⟩ (Nat.le_of_ble_eq_true rfl) hcs (kI ?_)
      refine r_st_n [_, _, _] (pc := 51) dX6_targetOf_51 (by decide) rfl rfl ?_
      refine r_goto (tgt := 78) (pc := 52) dX6_targetOf_52 (by decide) ?_
      exact J78 _ hw
    · refine r_tableIn (off := 43) (tgt := 55) (pc := 12) dX6_targetOf_12 (by decide) (by decide) rfl (by decide) ?_
      have hw : atN (M 4) n (nI 0) n = whoS (M 4) n k := by rw [whoS, h12, if_neg (by decide), if_pos rfl]
      refine r_aload_n (pc := 55) dX6_targetOf_55 rfl ?_
      refine r_iconst (v := nI 0) (pc := 56) dX6_targetOf_56 (by decide) ?_
      refine iv_X6_153 (c_X6_atRank _ _ _ _ n hn hn6) (pc := 57) dX6_targetOf_57 rfl ⟨Nat.le_of_ble_eq_true rfl, Nat.le_of_ble_eq_true rfl⟩ (Nat.le_of_ble_eq_true rfl) hcs (kI ?_)
      refine r_st_n [_, _, _] (pc := 60) dX6_targetOf_60 (by decide) rfl rfl ?_
      refine r_goto (tgt := 78) (pc := 61) dX6_targetOf_61 (by decide) ?_
      exact J78 _ hw
    · refine r_tableIn (off := 52) (tgt := 64) (pc := 12) dX6_targetOf_12 (by decide) (by decide) rfl (by decide) ?_
      have hw : nI ((k + 1) % n) = whoS (M 4) n k := by rw [whoS, h12, if_neg (by decide), if_neg (by decide), if_pos rfl]
      refine r_iload_n (pc := 64) dX6_targetOf_64 rfl ?_
      refine r_iconst (v := nI 1) (pc := 65) dX6_targetOf_65 (by decide) ?_
      first | with_reducible refine r_iaddN (pc := 66) dX6_targetOf_66 ?_ | refine r_iadd (pc := 66) dX6_targetOf_66 ?_
      refine r_aload_n (pc := 67) dX6_targetOf_67 rfl ?_
      refine gf_X6_19 (pc := 68) dX6_targetOf_68 rfl ?_
      refine r_iconst (v := nI 2) (pc := 71) dX6_targetOf_71 (by decide) ?_
      refine r_iald (pc := 72) dX6_targetOf_72 rfl (show _ < 41 by omega) ?_
      refine r_is (nI n) hn ?_
      refine r_irem (pc := 73) dX6_targetOf_73 (fun z => by have := (nI_eq (by omega) (by omega)).mp (z.trans nI_0.symm); omega) ?_
      refine r_is (nI ((k + 1) % n)) (pk_rem (by omega) hn1 (by omega)) ?_
      refine r_st_n [_, _, _] (pc := 74) dX6_targetOf_74 (by decide) rfl rfl ?_
      refine r_goto (tgt := 78) (pc := 75) dX6_targetOf_75 (by decide) ?_
      exact J78 _ hw
set_option maxHeartbeats 4000000 in
set_option maxRecDepth 100000 in
theorem c_X6_sawnOff (l : Launch) (G : Gx) (M : Mem) (s c : Nat) (hs : s < 6) (hc : c < 6) : Con l G yX6_sawnOff cX6_sawnOff 4 (some .int) 0 0 [.ref (gA G 0), .int (nI s), .int (nI c)] M (rI (sawnS (M 4) s c) M) := by
  refine Con.ofV [some (.ref (gA G 0)), some (.int (nI s)), some (.int (nI c)), none] RX6 (by decide) rfl (Nat.le_of_ble_eq_true rfl) rfl ?_
  intro κ hl hG hk0 hn0
  subst hl hG
  have hcs : κ.k ≤ 0 ∧ κ.n ≤ 0 := ⟨Nat.le_of_eq hk0, Nat.le_of_eq hn0⟩
  refine r_aload_n (pc := 0) dX6_sawnOff_0 rfl ?_
  refine gf_X6_19 (pc := 1) dX6_sawnOff_1 rfl ?_
  refine r_iconst (v := nI 5) (pc := 4) dX6_sawnOff_4 (by decide) ?_
  refine r_iload_n (pc := 5) dX6_sawnOff_5 rfl ?_
  first | with_reducible refine r_iaddN (pc := 6) dX6_sawnOff_6 ?_ | refine r_iadd (pc := 6) dX6_sawnOff_6 ?_
  refine r_iald (pc := 7) dX6_sawnOff_7 rfl (show _ < 41 by omega) ?_
  refine r_st_n [_, _, _, _] (pc := 8) dX6_sawnOff_8 (by decide) rfl rfl ?_
  refine r_iload_n (pc := 9) dX6_sawnOff_9 rfl ?_
  refine r_iconst (v := nI 4) (pc := 10) dX6_sawnOff_10 (by decide) ?_
  refine r_icmp_eq (tgt := 19) (pc := 11) dX6_sawnOff_11 (by decide) (fun h11 => ?_) (fun h11 => ?_)
  · have e : sawnS (M 4) s c = M 4 (17 + s) / nI 2 := if_pos (Or.inl h11)
    refine r_aload_n (pc := 19) dX6_sawnOff_19 rfl ?_
    refine gf_X6_19 (pc := 20) dX6_sawnOff_20 rfl ?_
    refine r_bipush (v := nI 17) (pc := 23) dX6_sawnOff_23 (by decide) ?_
    refine r_iload_n (pc := 25) dX6_sawnOff_25 rfl ?_
    first | with_reducible refine r_iaddN (pc := 26) dX6_sawnOff_26 ?_ | refine r_iadd (pc := 26) dX6_sawnOff_26 ?_
    refine r_iald (pc := 27) dX6_sawnOff_27 rfl (show _ < 41 by omega) ?_
    refine r_iconst (v := nI 2) (pc := 28) dX6_sawnOff_28 (by decide) ?_
    refine r_idiv (pc := 29) dX6_sawnOff_29 (by decide) ?_
    refine r_goto (tgt := 42) (pc := 30) dX6_sawnOff_30 (by decide) ?_
    exact r_iret (pc := 42) dX6_sawnOff_42 rfl ⟨by rw [e], rfl⟩
  · refine r_iload_n (pc := 14) dX6_sawnOff_14 rfl ?_
    refine r_iconst (v := nI 5) (pc := 15) dX6_sawnOff_15 (by decide) ?_
    refine r_icmp_ne (tgt := 33) (pc := 16) dX6_sawnOff_16 (by decide) (fun h16 => ?_) (fun h16 => ?_)
    · have e : sawnS (M 4) s c = M 4 (17 + s) := if_neg (fun z => z.elim h11 h16)
      refine r_aload_n (pc := 33) dX6_sawnOff_33 rfl ?_
      refine gf_X6_19 (pc := 34) dX6_sawnOff_34 rfl ?_
      refine r_bipush (v := nI 17) (pc := 37) dX6_sawnOff_37 (by decide) ?_
      refine r_iload_n (pc := 39) dX6_sawnOff_39 rfl ?_
      first | with_reducible refine r_iaddN (pc := 40) dX6_sawnOff_40 ?_ | refine r_iadd (pc := 40) dX6_sawnOff_40 ?_
      refine r_iald (pc := 41) dX6_sawnOff_41 rfl (show _ < 41 by omega) ?_
      exact r_iret (pc := 42) dX6_sawnOff_42 rfl ⟨by rw [e], rfl⟩
    · have e : sawnS (M 4) s c = M 4 (17 + s) / nI 2 := if_pos (Or.inr h16)
      refine r_aload_n (pc := 19) dX6_sawnOff_19 rfl ?_
      refine gf_X6_19 (pc := 20) dX6_sawnOff_20 rfl ?_
      refine r_bipush (v := nI 17) (pc := 23) dX6_sawnOff_23 (by decide) ?_
      refine r_iload_n (pc := 25) dX6_sawnOff_25 rfl ?_
      first | with_reducible refine r_iaddN (pc := 26) dX6_sawnOff_26 ?_ | refine r_iadd (pc := 26) dX6_sawnOff_26 ?_
      refine r_iald (pc := 27) dX6_sawnOff_27 rfl (show _ < 41 by omega) ?_
      refine r_iconst (v := nI 2) (pc := 28) dX6_sawnOff_28 (by decide) ?_
      refine r_idiv (pc := 29) dX6_sawnOff_29 (by decide) ?_
      refine r_goto (tgt := 42) (pc := 30) dX6_sawnOff_30 (by decide) ?_
      exact r_iret (pc := 42) dX6_sawnOff_42 rfl ⟨by rw [e], rfl⟩
set_option maxHeartbeats 4000000 in
set_option maxRecDepth 100000 in
theorem c_X6_sumOf (l : Launch) (G : Gx) (M : Mem) (a n : Nat) (ha : a ≤ 35) (hn : M 4 2 = nI n) (hn6 : n ≤ 6) : Con l G yX6_sumOf cX6_sumOf 4 (some .int) 0 0 [.ref (gA G 0), .int (nI a)] M (rI (sumN (M 4) a n) M) := by
  refine Con.ofV [some (.ref (gA G 0)), some (.int (nI a)), none, none] RX6 (by decide) rfl (Nat.le_of_ble_eq_true rfl) rfl ?_
  intro κ hl hG hk0 hn0
  subst hl hG
  have hcs : κ.k ≤ 0 ∧ κ.n ≤ 0 := ⟨Nat.le_of_eq hk0, Nat.le_of_eq hn0⟩
  refine r_iconst (v := nI 0) (pc := 0) dX6_sumOf_0 (by decide) ?_
  refine r_st_n [_, _, _, _] (pc := 1) dX6_sumOf_1 (by decide) rfl rfl ?_
  refine r_iconst (v := nI 0) (pc := 2) dX6_sumOf_2 (by decide) ?_
  refine r_st_n [_, _, _, _] (pc := 3) dX6_sumOf_3 (by decide) rfl rfl ?_
  refine V.bk (loopV (fun (σ : Nat) => V κ cX6_sumOf RX6 4 (some .int) (rmx 0 0) (QM κ (rI (sumN (M 4) a n) M)) M 4 [some (.ref (gA κ.G 0)), some (.int (nI a)), some (.int (sumN (M 4) a σ)), some (.int (nI σ))] []) (fun (σ : Nat) => σ ≤ n) (fun (σ : Nat) => n - σ) ?_ 0 (Nat.zero_le _)) rfl (by (repeat (first | exact wk_0 | refine wk_n ?_ | refine wk_s rfl ?_)); done)
  rintro j hj ih
  show V κ cX6_sumOf RX6 4 (some .int) (rmx 0 0) (QM κ (rI (sumN (M 4) a n) M)) M 4 [some (.ref (gA κ.G 0)), some (.int (nI a)), some (.int (sumN (M 4) a j)), some (.int (nI j))] []
  refine r_iload_n (pc := 4) dX6_sumOf_4 rfl ?_
  refine r_aload_n (pc := 5) dX6_sumOf_5 rfl ?_
  refine gf_X6_19 (pc := 6) dX6_sumOf_6 rfl ?_
  refine r_iconst (v := nI 2) (pc := 9) dX6_sumOf_9 (by decide) ?_
  refine r_iald (pc := 10) dX6_sumOf_10 rfl (show _ < 41 by omega) ?_
  refine r_is (nI n) hn ?_
  refine r_icmp_ge (tgt := 31) (pc := 11) dX6_sumOf_11 (by decide) (fun h11 => ?_) (fun h11 => ?_)
  · have h11 : n ≤ j := (nI_leI (by omega) (by omega)).mp h11
    refine r_iload_n (pc := 31) dX6_sumOf_31 rfl ?_
    exact r_iret (pc := 32) dX6_sumOf_32 rfl ⟨by rw [show j = n by omega], rfl⟩
  · have h11 : j < n := Nat.not_le.mp (fun z => h11 ((nI_leI (by omega) (by omega)).mpr z))
    refine r_iload_n (pc := 14) dX6_sumOf_14 rfl ?_
    refine r_aload_n (pc := 15) dX6_sumOf_15 rfl ?_
    refine gf_X6_19 (pc := 16) dX6_sumOf_16 rfl ?_
    refine r_iload_n (pc := 19) dX6_sumOf_19 rfl ?_
    refine r_iload_n (pc := 20) dX6_sumOf_20 rfl ?_
    first | with_reducible refine r_iaddN (pc := 21) dX6_sumOf_21 ?_ | refine r_iadd (pc := 21) dX6_sumOf_21 ?_
    refine r_iald (pc := 22) dX6_sumOf_22 rfl (show _ < 41 by omega) ?_
    first | with_reducible refine r_iaddN (pc := 23) dX6_sumOf_23 ?_ | refine r_iadd (pc := 23) dX6_sumOf_23 ?_
    refine r_st_n [_, _, _, _] (pc := 24) dX6_sumOf_24 (by decide) rfl rfl ?_
    first | refine r_inc [_, _, _, _] (pc := 25) dX6_sumOf_25 rfl (nI_inc _) (by decide) rfl rfl ?_ | refine r_inc [_, _, _, _] (pc := 25) dX6_sumOf_25 rfl rfl (by decide) rfl rfl ?_
    refine r_goto (tgt := 4) (pc := 28) dX6_sumOf_28 (by decide) ?_
    exact ih (j + 1) (by omega) (by omega)
theorem mset_thru (M : Mem) (a i b : Nat) (v w : Int32) (g : Nat → Int32) (h : a ≠ b) : mset (setA (mset M a i v) b g) a i w = setA (mset M a i w) b g := by
  funext q
  unfold mset
  by_cases e1 : q = a
  · subst e1
    rw [setA_eq, setA_ne _ _ h, setA_ne _ _ h, setA_eq, setA_eq]
    funext k
    unfold upd
    split <;> rfl
  · by_cases e2 : q = b
    · subst e2
      rw [setA_ne _ _ e1, setA_eq, setA_eq]
    · rw [setA_ne _ _ e1, setA_ne _ _ e2, setA_ne _ _ e1, setA_ne _ _ e2, setA_ne _ _ e1]
theorem nightN_lo (S off : Nat → Int32) (cg : Int32) {k : Nat} (h : k < 11) : ∀ c, nightN S off cg c k = S k
  | 0 => rfl
  | c + 1 => by
    unfold nightN
    rw [pk_un (by omega), pk_un (by omega), pk_un (by omega)]
    exact nightN_lo S off cg h c
set_option maxHeartbeats 4000000 in
set_option maxRecDepth 100000 in
theorem c_X6_oneNight (l : Launch) (G : Gx) (M : Mem) (n : Nat) (hn : M 4 2 = nI n) (hn6 : n ≤ 6) (hn1 : 0 < n) : Con l G yX6_oneNight cX6_oneNight 4 none 5 111 [.ref (gA G 0)] M (rV (nightM M n)) := by
  refine Con.ofV [some (.ref (gA G 0)), none, none, none] RX6 (by decide) rfl (Nat.le_of_ble_eq_true rfl) rfl ?_
  intro κ hl hG hk0 hn0
  subst hl hG
  have hcs : κ.k ≤ 0 ∧ κ.n ≤ 0 := ⟨Nat.le_of_eq hk0, Nat.le_of_eq hn0⟩
  refine r_aload_n (pc := 0) dX6_oneNight_0 rfl ?_
  refine r_iconst (v := nI 0) (pc := 1) dX6_oneNight_1 (by decide) ?_
  refine pf_X6_156 (pc := 2) dX6_oneNight_2 rfl ?_
  refine V.mem (M' := setA (mset M 0 17 (nI 0)) 8 (pt (M 8) (fun _ => nI 0) 0)) (by rw [pt_0]; exact (setA_id' _ rfl).symm) ?_
  refine r_iconst (v := nI 0) (pc := 5) dX6_oneNight_5 (by decide) ?_
  refine r_st_n [_, _, _, _] (pc := 6) dX6_oneNight_6 (by decide) rfl rfl ?_
  refine V.bk (loopV (fun (σ : Nat) => V κ cX6_oneNight RX6 4 none (rmx 5 111) (QM κ (rV (nightM M n))) (setA (mset M 0 17 (nI 0)) 8 (pt (M 8) (fun _ => nI 0) σ)) 7 [some (.ref (gA κ.G 0)), some (.int (nI σ)), none, none] []) (fun (σ : Nat) => σ ≤ n) (fun (σ : Nat) => n - σ) ?_ 0 (Nat.zero_le _)) rfl (by (repeat (first | exact wk_0 | refine wk_n ?_ | refine wk_s rfl ?_)); done)
  rintro j hj ih
  show V κ cX6_oneNight RX6 4 none (rmx 5 111) (QM κ (rV (nightM M n))) (setA (mset M 0 17 (nI 0)) 8 (pt (M 8) (fun _ => nI 0) j)) 7 [some (.ref (gA κ.G 0)), some (.int (nI j)), none, none] []
  refine r_iload_n (pc := 7) dX6_oneNight_7 rfl ?_
  refine r_aload_n (pc := 8) dX6_oneNight_8 rfl ?_
  refine gf_X6_19 (pc := 9) dX6_oneNight_9 rfl ?_
  refine r_iconst (v := nI 2) (pc := 12) dX6_oneNight_12 (by decide) ?_
  refine r_iald (pc := 13) dX6_oneNight_13 rfl (show _ < 41 by omega) ?_
  refine r_is (nI n) hn ?_
  refine r_icmp_ge (tgt := 30) (pc := 14) dX6_oneNight_14 (by decide) (fun h14 => ?_) (fun h14 => ?_)
  · have h14 : n ≤ j := (nI_leI (by omega) (by omega)).mp h14
    obtain rfl : n = j := by omega
    refine r_iconst (v := nI 0) (pc := 30) dX6_oneNight_30 (by decide) ?_
    refine r_st_n [_, _, _, _] (pc := 31) dX6_oneNight_31 (by decide) rfl rfl ?_
    refine V.bk (loopV (fun (σ : Nat) => V κ cX6_oneNight RX6 4 none (rmx 5 111) (QM κ (rV (nightM M n))) (setA (mset M 0 17 (cgtN (M 4) n σ)) 8 (offN (M 4) n (zerA (M 8) n) σ)) 32 [some (.ref (gA κ.G 0)), some (.int (nI σ)), none, none] []) (fun (σ : Nat) => σ ≤ n) (fun (σ : Nat) => n - σ) ?_ 0 (Nat.zero_le _)) rfl (by (repeat (first | exact wk_0 | refine wk_n ?_ | refine wk_s rfl ?_)); done)
    rintro j hj ih
    show V κ cX6_oneNight RX6 4 none (rmx 5 111) (QM κ (rV (nightM M n))) (setA (mset M 0 17 (cgtN (M 4) n j)) 8 (offN (M 4) n (zerA (M 8) n) j)) 32 [some (.ref (gA κ.G 0)), some (.int (nI j)), none, none] []
    refine r_iload_n (pc := 32) dX6_oneNight_32 rfl ?_
    refine r_aload_n (pc := 33) dX6_oneNight_33 rfl ?_
    refine gf_X6_19 (pc := 34) dX6_oneNight_34 rfl ?_
    refine r_iconst (v := nI 2) (pc := 37) dX6_oneNight_37 (by decide) ?_
    refine r_iald (pc := 38) dX6_oneNight_38 rfl (show _ < 41 by omega) ?_
    refine r_is (nI n) hn ?_
    refine r_icmp_ge (tgt := 120) (pc := 39) dX6_oneNight_39 (by decide) (fun h39 => ?_) (fun h39 => ?_)
    · have h39 : n ≤ j := (nI_leI (by omega) (by omega)).mp h39
      obtain rfl : n = j := by omega
      refine V.mem (M' := setA (setA (mset M 0 17 (cgtN (M 4) n n)) 8 (offN (M 4) n (zerA (M 8) n) n)) 4 (M 4)) (setA_id' _ rfl).symm ?_
      refine r_iconst (v := nI 0) (pc := 120) dX6_oneNight_120 (by decide) ?_
      refine r_st_n [_, _, _, _] (pc := 121) dX6_oneNight_121 (by decide) rfl rfl ?_
      refine V.bk (loopV (fun (σ : Nat) => V κ cX6_oneNight RX6 4 none (rmx 5 111) (QM κ (rV (nightM M n))) (setA (setA (mset M 0 17 (cgtN (M 4) n n)) 8 (offN (M 4) n (zerA (M 8) n) n)) 4 (nightN (M 4) (offN (M 4) n (zerA (M 8) n) n) (cgtN (M 4) n n) σ)) 122 [some (.ref (gA κ.G 0)), some (.int (nI σ)), none, none] []) (fun (σ : Nat) => σ ≤ n) (fun (σ : Nat) => n - σ) ?_ 0 (Nat.zero_le _)) rfl (by (repeat (first | exact wk_0 | refine wk_n ?_ | refine wk_s rfl ?_)); done)
      rintro j hj ih
      show V κ cX6_oneNight RX6 4 none (rmx 5 111) (QM κ (rV (nightM M n))) (setA (setA (mset M 0 17 (cgtN (M 4) n n)) 8 (offN (M 4) n (zerA (M 8) n) n)) 4 (nightN (M 4) (offN (M 4) n (zerA (M 8) n) n) (cgtN (M 4) n n) j)) 122 [some (.ref (gA κ.G 0)), some (.int (nI j)), none, none] []
      refine r_iload_n (pc := 122) dX6_oneNight_122 rfl ?_
      refine r_aload_n (pc := 123) dX6_oneNight_123 rfl ?_
      refine gf_X6_19 (pc := 124) dX6_oneNight_124 rfl ?_
      refine r_iconst (v := nI 2) (pc := 127) dX6_oneNight_127 (by decide) ?_
      refine r_iald (pc := 128) dX6_oneNight_128 rfl (show _ < 41 by omega) ?_
      refine r_is (nI n) ((nightN_lo _ _ _ (by omega) j).trans hn) ?_
      refine r_icmp_ge (tgt := 229) (pc := 129) dX6_oneNight_129 (by decide) (fun h129 => ?_) (fun h129 => ?_)
      · have h129 : n ≤ j := (nI_leI (by omega) (by omega)).mp h129
        obtain rfl : n = j := by omega
        refine r_aload_n (pc := 229) dX6_oneNight_229 rfl ?_
        refine gf_X6_19 (pc := 230) dX6_oneNight_230 rfl ?_
        refine r_iconst (v := nI 3) (pc := 233) dX6_oneNight_233 (by decide) ?_
        refine r_dup2 (pc := 234) dX6_oneNight_234 rfl rfl ?_
        refine r_iald (pc := 235) dX6_oneNight_235 rfl (show _ < 41 by omega) ?_
        refine r_iconst (v := nI 1) (pc := 236) dX6_oneNight_236 (by decide) ?_
        first | with_reducible refine r_iaddN (pc := 237) dX6_oneNight_237 ?_ | refine r_iadd (pc := 237) dX6_oneNight_237 ?_
        refine r_iast (pc := 238) dX6_oneNight_238 rfl (show _ < 41 by omega) ?_
        exact r_vret (pc := 239) dX6_oneNight_239 rfl ⟨rfl, by rw [mset_setA]; rfl⟩
      · have h129 : j < n := Nat.not_le.mp (fun z => h129 ((nI_leI (by omega) (by omega)).mpr z))
        refine r_aload_n (pc := 132) dX6_oneNight_132 rfl ?_
        refine gf_X6_19 (pc := 133) dX6_oneNight_133 rfl ?_
        refine r_bipush (v := nI 11) (pc := 136) dX6_oneNight_136 (by decide) ?_
        refine r_iload_n (pc := 138) dX6_oneNight_138 rfl ?_
        first | with_reducible refine r_iaddN (pc := 139) dX6_oneNight_139 ?_ | refine r_iadd (pc := 139) dX6_oneNight_139 ?_
        refine r_iald (pc := 140) dX6_oneNight_140 rfl (show _ < 41 by omega) ?_
        refine r_is (nightN (M 4) (offN (M 4) n (zerA (M 8) n) n) (cgtN (M 4) n n) j (11 + j)) rfl ?_
        refine r_aload_n (pc := 141) dX6_oneNight_141 rfl ?_
        refine gf_X6_31 (pc := 142) dX6_oneNight_142 rfl ?_
        refine r_iload_n (pc := 145) dX6_oneNight_145 rfl ?_
        refine r_iald (pc := 146) dX6_oneNight_146 rfl (show _ < 6 by omega) ?_
        refine r_is (offN (M 4) n (zerA (M 8) n) n j) rfl ?_
        first | (with_reducible refine r_isubN (pc := 147) dX6_oneNight_147 ?hle ?_; case hle => omega) | refine r_isub (pc := 147) dX6_oneNight_147 ?_
        refine r_st_n [_, _, _, _] (pc := 148) dX6_oneNight_148 (by decide) rfl rfl ?_
        refine r_aload_n (pc := 149) dX6_oneNight_149 rfl ?_
        refine gf_X6_19 (pc := 150) dX6_oneNight_150 rfl ?_
        refine r_bipush (v := nI 11) (pc := 153) dX6_oneNight_153 (by decide) ?_
        refine r_iload_n (pc := 155) dX6_oneNight_155 rfl ?_
        first | with_reducible refine r_iaddN (pc := 156) dX6_oneNight_156 ?_ | refine r_iadd (pc := 156) dX6_oneNight_156 ?_
        refine r_iload_n (pc := 157) dX6_oneNight_157 rfl ?_
        refine t_if_ge (tgt := 165) (J := 166) (a := ?pA158x1) (b := ?pB158x1) (pc := 158) dX6_oneNight_158 (by decide) (fun k158x1 => ?pT158x1) (fun k158x1 => ?pF158x1) ?pK158x1
        case pT158x1 =>
          refine r_iload_n (pc := 165) dX6_oneNight_165 rfl ?_
          exact k158x1
        case pF158x1 =>
          refine r_iconst (v := nI 0) (pc := 161) dX6_oneNight_161 (by decide) ?_
          refine r_goto (tgt := 166) (pc := 162) dX6_oneNight_162 (by decide) ?_
          exact k158x1
        case pK158x1 =>
          refine r_iast (pc := 166) dX6_oneNight_166 rfl (show _ < 41 by omega) ?_
          rw [mset_setA]
          refine r_aload_n (pc := 167) dX6_oneNight_167 rfl ?_
          refine gf_X6_19 (pc := 168) dX6_oneNight_168 rfl ?_
          refine r_bipush (v := nI 17) (pc := 171) dX6_oneNight_171 (by decide) ?_
          refine r_iload_n (pc := 173) dX6_oneNight_173 rfl ?_
          first | with_reducible refine r_iaddN (pc := 174) dX6_oneNight_174 ?_ | refine r_iadd (pc := 174) dX6_oneNight_174 ?_
          refine r_dup2 (pc := 175) dX6_oneNight_175 rfl rfl ?_
          refine r_iald (pc := 176) dX6_oneNight_176 rfl (show _ < 41 by omega) ?_
          refine r_is (nightN (M 4) (offN (M 4) n (zerA (M 8) n) n) (cgtN (M 4) n n) j (17 + j)) (pk_un (by omega)) ?_
          refine r_aload_n (pc := 177) dX6_oneNight_177 rfl ?_
          refine gf_X6_156 (pc := 178) dX6_oneNight_178 rfl ?_
          refine r_is (cgtN (M 4) n n) rfl ?_
          refine r_iload_n (pc := 181) dX6_oneNight_181 rfl ?_
          refine iv_X6_162 (c_X6_has _ _ _ _ _) (pc := 182) dX6_oneNight_182 ⟨Nat.le_of_ble_eq_true rfl, Nat.le_of_ble_eq_true rfl⟩ (Nat.le_of_ble_eq_true rfl) hcs (kI ?_)
          refine t_ifeq_b (tgt := 192) (J := 193) (a := ?pA185x2) (b := ?pB185x2) (pc := 185) dX6_oneNight_185 (by decide) (fun k185x2 => ?pT185x2) (fun k185x2 => ?pF185x2) ?pK185x2
          case pT185x2 =>
            refine r_iconst (v := nI 0) (pc := 192) dX6_oneNight_192 (by decide) ?_
            exact k185x2
          case pF185x2 =>
            refine r_iconst (v := nI 1) (pc := 188) dX6_oneNight_188 (by decide) ?_
            refine r_goto (tgt := 193) (pc := 189) dX6_oneNight_189 (by decide) ?_
            exact k185x2
          case pK185x2 =>
            first | (with_reducible refine r_isubN (pc := 193) dX6_oneNight_193 ?hle ?_; case hle => omega) | refine r_isub (pc := 193) dX6_oneNight_193 ?_
            refine r_iast (pc := 194) dX6_oneNight_194 rfl (show _ < 41 by omega) ?_
            rw [mset_setA]
            refine r_aload_n (pc := 195) dX6_oneNight_195 rfl ?_
            refine gf_X6_19 (pc := 196) dX6_oneNight_196 rfl ?_
            refine r_bipush (v := nI 35) (pc := 199) dX6_oneNight_199 (by decide) ?_
            refine r_iload_n (pc := 201) dX6_oneNight_201 rfl ?_
            first | with_reducible refine r_iaddN (pc := 202) dX6_oneNight_202 ?_ | refine r_iadd (pc := 202) dX6_oneNight_202 ?_
            refine r_dup2 (pc := 203) dX6_oneNight_203 rfl rfl ?_
            refine r_iald (pc := 204) dX6_oneNight_204 rfl (show _ < 41 by omega) ?_
            refine r_is (nightN (M 4) (offN (M 4) n (zerA (M 8) n) n) (cgtN (M 4) n n) j (35 + j)) ((pk_un (by omega)).trans (pk_un (by omega))) ?_
            refine r_aload_n (pc := 205) dX6_oneNight_205 rfl ?_
            refine gf_X6_156 (pc := 206) dX6_oneNight_206 rfl ?_
            refine r_is (cgtN (M 4) n n) rfl ?_
            refine r_iload_n (pc := 209) dX6_oneNight_209 rfl ?_
            refine iv_X6_162 (c_X6_has _ _ _ _ _) (pc := 210) dX6_oneNight_210 ⟨Nat.le_of_ble_eq_true rfl, Nat.le_of_ble_eq_true rfl⟩ (Nat.le_of_ble_eq_true rfl) hcs (kI ?_)
            refine t_ifeq_b (tgt := 220) (J := 221) (a := ?pA213x3) (b := ?pB213x3) (pc := 213) dX6_oneNight_213 (by decide) (fun k213x3 => ?pT213x3) (fun k213x3 => ?pF213x3) ?pK213x3
            case pT213x3 =>
              refine r_iconst (v := nI 0) (pc := 220) dX6_oneNight_220 (by decide) ?_
              exact k213x3
            case pF213x3 =>
              refine r_iconst (v := nI 1) (pc := 216) dX6_oneNight_216 (by decide) ?_
              refine r_goto (tgt := 221) (pc := 217) dX6_oneNight_217 (by decide) ?_
              exact k213x3
            case pK213x3 =>
              first | with_reducible refine r_iaddN (pc := 221) dX6_oneNight_221 ?_ | refine r_iadd (pc := 221) dX6_oneNight_221 ?_
              refine r_iast (pc := 222) dX6_oneNight_222 rfl (show _ < 41 by omega) ?_
              first | refine r_inc [_, _, _, _] (pc := 223) dX6_oneNight_223 rfl (nI_inc _) (by decide) rfl rfl ?_ | refine r_inc [_, _, _, _] (pc := 223) dX6_oneNight_223 rfl rfl (by decide) rfl rfl ?_
              refine r_goto (tgt := 122) (pc := 226) dX6_oneNight_226 (by decide) ?_
              exact V.bk (ih (j + 1) (by omega) (by omega)) (by rw [mset_setA]; rfl) (by (repeat (first | exact wk_0 | refine wk_n ?_ | refine wk_s rfl ?_)); done)
    · have h39 : j < n := Nat.not_le.mp (fun z => h39 ((nI_leI (by omega) (by omega)).mpr z))
      refine r_aload_n (pc := 42) dX6_oneNight_42 rfl ?_
      refine r_iload_n (pc := 43) dX6_oneNight_43 rfl ?_
      refine iv_X6_159 (c_X6_targetOf _ _ _ _ n (by omega) hn hn6 hn1) (pc := 44) dX6_oneNight_44 rfl ⟨Nat.le_of_ble_eq_true rfl, Nat.le_of_ble_eq_true rfl⟩ (Nat.le_of_ble_eq_true rfl) hcs (kI ?_)
      refine r_is (tgtS (M 4) n j) rfl ?_
      refine r_st_n [_, _, _, _] (pc := 47) dX6_oneNight_47 (by decide) rfl rfl ?_
      have J70 : ∀ x : Int32, x = bI (isC (M 4) n j) → V κ cX6_oneNight RX6 4 none (rmx 5 111) (QM κ (rV (nightM M n))) (setA (mset M 0 17 (cgtN (M 4) n j)) 8 (offN (M 4) n (zerA (M 8) n) j)) 70 [some (.ref (gA κ.G 0)), some (.int (nI j)), some (.int (tgtS (M 4) n j)), none] [.int x] := by
        rintro _ rfl
        refine r_st_n [_, _, _, _] (pc := 70) dX6_oneNight_70 (by decide) rfl rfl ?_
        refine r_aload_n (pc := 71) dX6_oneNight_71 rfl ?_
        refine r_dup (pc := 72) dX6_oneNight_72 rfl ?_
        refine gf_X6_156 (pc := 73) dX6_oneNight_73 rfl ?_
        refine r_is (cgtN (M 4) n j) rfl ?_
        refine r_iload_n (pc := 76) dX6_oneNight_76 rfl ?_
        refine t_ifeq_b (tgt := 86) (J := 87) (a := ?pA77x4) (b := ?pB77x4) (pc := 77) dX6_oneNight_77 (by decide) (fun k77x4 => ?pT77x4) (fun k77x4 => ?pF77x4) ?pK77x4
        case pT77x4 =>
          refine r_iconst (v := nI 0) (pc := 86) dX6_oneNight_86 (by decide) ?_
          exact k77x4
        case pF77x4 =>
          refine r_iconst (v := nI 1) (pc := 80) dX6_oneNight_80 (by decide) ?_
          refine r_iload_n (pc := 81) dX6_oneNight_81 rfl ?_
          refine r_ishl (pc := 82) dX6_oneNight_82 ?_
          refine r_goto (tgt := 87) (pc := 83) dX6_oneNight_83 (by decide) ?_
          exact k77x4
        case pK77x4 =>
          refine r_ior (pc := 87) dX6_oneNight_87 ?_
          refine pf_X6_156 (pc := 88) dX6_oneNight_88 rfl ?_
          refine r_iload_n (pc := 91) dX6_oneNight_91 rfl ?_
          refine r_if_lt (tgt := 114) (pc := 92) dX6_oneNight_92 (by decide) (fun h92 => ?_) (fun h92 => ?_)
          · have hb : offN (M 4) n (zerA (M 8) n) (j + 1) = offN (M 4) n (zerA (M 8) n) j := if_neg (fun z => z.1 h92)
            first | refine r_inc [_, _, _, _] (pc := 114) dX6_oneNight_114 rfl (nI_inc _) (by decide) rfl rfl ?_ | refine r_inc [_, _, _, _] (pc := 114) dX6_oneNight_114 rfl rfl (by decide) rfl rfl ?_
            refine r_goto (tgt := 32) (pc := 117) dX6_oneNight_117 (by decide) ?_
            first
              | exact V.bk (ih (j + 1) (by omega) (by omega)) (by rw [mset_thru _ _ _ _ _ _ _ (by decide), ← hb]; rfl) (by (repeat (first | exact wk_0 | refine wk_n ?_ | refine wk_s rfl ?_)); done)
              | exact V.bk (ih (j + 1) (by omega) (by omega)) (by rw [mset_thru _ _ _ _ _ _ _ (by decide), mset_setA]; exact congrArg _ hb.symm) (by (repeat (first | exact wk_0 | refine wk_n ?_ | refine wk_s rfl ?_)); done)
          · refine r_iload_n (pc := 95) dX6_oneNight_95 rfl ?_
            refine r_ifne_b (tgt := 114) (pc := 96) dX6_oneNight_96 (by decide) (fun h96 => ?_) (fun h96 => ?_)
            · have hb : offN (M 4) n (zerA (M 8) n) (j + 1) = offN (M 4) n (zerA (M 8) n) j := if_neg (fun z => z.2 h96)
              first | refine r_inc [_, _, _, _] (pc := 114) dX6_oneNight_114 rfl (nI_inc _) (by decide) rfl rfl ?_ | refine r_inc [_, _, _, _] (pc := 114) dX6_oneNight_114 rfl rfl (by decide) rfl rfl ?_
              refine r_goto (tgt := 32) (pc := 117) dX6_oneNight_117 (by decide) ?_
              first
                | exact V.bk (ih (j + 1) (by omega) (by omega)) (by rw [mset_thru _ _ _ _ _ _ _ (by decide), ← hb]; rfl) (by (repeat (first | exact wk_0 | refine wk_n ?_ | refine wk_s rfl ?_)); done)
                | exact V.bk (ih (j + 1) (by omega) (by omega)) (by rw [mset_thru _ _ _ _ _ _ _ (by decide), mset_setA]; exact congrArg _ hb.symm) (by (repeat (first | exact wk_0 | refine wk_n ?_ | refine wk_s rfl ?_)); done)
            · obtain ⟨d, hd, e⟩ := tgtS_nn (M 4) hn1 h92
              refine V.bk (f' := [some (.ref (gA κ.G 0)), some (.int (nI j)), some (.int (nI d)), none]) ?_ rfl (wk_s rfl (wk_s rfl (wk_s (by rw [e]) (wk_n wk_0))))
              have hb : offN (M 4) n (zerA (M 8) n) (j + 1) = upd (offN (M 4) n (zerA (M 8) n) j) d (offN (M 4) n (zerA (M 8) n) j d + sawnS (M 4) j d) := by rw [offN, if_pos ⟨h92, h96⟩, e, nI_clamp (by omega)]
              refine r_aload_n (pc := 99) dX6_oneNight_99 rfl ?_
              refine gf_X6_31 (pc := 100) dX6_oneNight_100 rfl ?_
              refine r_iload_n (pc := 103) dX6_oneNight_103 rfl ?_
              refine r_dup2 (pc := 104) dX6_oneNight_104 rfl rfl ?_
              refine r_iald (pc := 105) dX6_oneNight_105 rfl (show _ < 6 by omega) ?_
              refine r_is (offN (M 4) n (zerA (M 8) n) j d) rfl ?_
              refine r_aload_n (pc := 106) dX6_oneNight_106 rfl ?_
              refine r_iload_n (pc := 107) dX6_oneNight_107 rfl ?_
              refine r_iload_n (pc := 108) dX6_oneNight_108 rfl ?_
              refine iv_X6_166 (c_X6_sawnOff _ _ _ _ _ (by omega) (by omega)) (pc := 109) dX6_oneNight_109 rfl ⟨Nat.le_of_ble_eq_true rfl, Nat.le_of_ble_eq_true rfl⟩ (Nat.le_of_ble_eq_true rfl) hcs (kI ?_)
              refine r_is (sawnS (M 4) j d) rfl ?_
              first | with_reducible refine r_iaddN (pc := 112) dX6_oneNight_112 ?_ | refine r_iadd (pc := 112) dX6_oneNight_112 ?_
              refine r_iast (pc := 113) dX6_oneNight_113 rfl (show _ < 6 by omega) ?_
              first | refine r_inc [_, _, _, _] (pc := 114) dX6_oneNight_114 rfl (nI_inc _) (by decide) rfl rfl ?_ | refine r_inc [_, _, _, _] (pc := 114) dX6_oneNight_114 rfl rfl (by decide) rfl rfl ?_
              refine r_goto (tgt := 32) (pc := 117) dX6_oneNight_117 (by decide) ?_
              first
                | exact V.bk (ih (j + 1) (by omega) (by omega)) (by rw [mset_thru _ _ _ _ _ _ _ (by decide), ← hb]; rfl) (by (repeat (first | exact wk_0 | refine wk_n ?_ | refine wk_s rfl ?_)); done)
                | exact V.bk (ih (j + 1) (by omega) (by omega)) (by rw [mset_thru _ _ _ _ _ _ _ (by decide), mset_setA]; exact congrArg _ hb.symm) (by (repeat (first | exact wk_0 | refine wk_n ?_ | refine wk_s rfl ?_)); done)
      refine r_iload_n (pc := 48) dX6_oneNight_48 rfl ?_
      refine r_if_lt (tgt := 69) (pc := 49) dX6_oneNight_49 (by decide) (fun h49 => ?_) (fun h49 => ?_)
      · have hc : bI (isC (M 4) n j) = nI 0 := bI_f (fun z => z.1 h49)
        refine r_iconst (v := nI 0) (pc := 69) dX6_oneNight_69 (by decide) ?_
        exact J70 _ hc.symm
      · refine r_aload_n (pc := 52) dX6_oneNight_52 rfl ?_
        refine gf_X6_19 (pc := 53) dX6_oneNight_53 rfl ?_
        refine r_iconst (v := nI 4) (pc := 56) dX6_oneNight_56 (by decide) ?_
        refine r_iald (pc := 57) dX6_oneNight_57 rfl (show _ < 41 by omega) ?_
        refine r_is (M 4 4) rfl ?_
        refine r_iload_n (pc := 58) dX6_oneNight_58 rfl ?_
        refine iv_X6_162 (c_X6_has _ _ _ _ _) (pc := 59) dX6_oneNight_59 ⟨Nat.le_of_ble_eq_true rfl, Nat.le_of_ble_eq_true rfl⟩ (Nat.le_of_ble_eq_true rfl) hcs (kI ?_)
        refine r_ifeq_b (tgt := 69) (pc := 62) dX6_oneNight_62 (by decide) (fun h62 => ?_) (fun h62 => ?_)
        · have hc : bI (isC (M 4) n j) = nI 0 := bI_f (fun z => h62 z.2)
          refine r_iconst (v := nI 0) (pc := 69) dX6_oneNight_69 (by decide) ?_
          exact J70 _ hc.symm
        · have hc : bI (isC (M 4) n j) = nI 1 := bI_t ⟨h49, h62⟩
          refine r_iconst (v := nI 1) (pc := 65) dX6_oneNight_65 (by decide) ?_
          refine r_goto (tgt := 70) (pc := 66) dX6_oneNight_66 (by decide) ?_
          exact J70 _ hc.symm
  · have h14 : j < n := Nat.not_le.mp (fun z => h14 ((nI_leI (by omega) (by omega)).mpr z))
    refine r_aload_n (pc := 17) dX6_oneNight_17 rfl ?_
    refine gf_X6_31 (pc := 18) dX6_oneNight_18 rfl ?_
    refine r_iload_n (pc := 21) dX6_oneNight_21 rfl ?_
    refine r_iconst (v := nI 0) (pc := 22) dX6_oneNight_22 (by decide) ?_
    refine r_iast (pc := 23) dX6_oneNight_23 rfl (show _ < 6 by omega) ?_
    first | refine r_inc [_, _, _, _] (pc := 24) dX6_oneNight_24 rfl (nI_inc _) (by decide) rfl rfl ?_ | refine r_inc [_, _, _, _] (pc := 24) dX6_oneNight_24 rfl rfl (by decide) rfl rfl ?_
    refine r_goto (tgt := 7) (pc := 27) dX6_oneNight_27 (by decide) ?_
    exact V.bk (ih (j + 1) (by omega) (by omega)) (by rw [mset_setA, pt_s]) (by (repeat (first | exact wk_0 | refine wk_n ?_ | refine wk_s rfl ?_)); done)

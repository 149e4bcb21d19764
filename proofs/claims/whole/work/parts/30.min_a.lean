theorem w_maxS : Cond.static Lib.Math.max.name ∈ gtbl := in_g (List.mem_of_getElem? (i := 403) (by decide +kernel)) (by decide +kernel)
theorem w_maxC : Cond.code Lib.Math.max.name Lib.Math.max.code 2 (some .int) ∈ gtbl := in_g (List.mem_of_getElem? (i := 404) (by decide +kernel)) (by decide +kernel)
theorem w_minS : Cond.static Lib.Math.min.name ∈ gtbl := in_g (List.mem_of_getElem? (i := 406) (by decide +kernel)) (by decide +kernel)
theorem w_minC : Cond.code Lib.Math.min.name Lib.Math.min.code 2 (some .int) ∈ gtbl := in_g (List.mem_of_getElem? (i := 407) (by decide +kernel)) (by decide +kernel)
theorem w_MathI : Cond.initialized "java/lang/Math" ∈ gtbl := in_g (List.mem_of_getElem? (i := 82) (by decide +kernel)) (by decide +kernel)
theorem w_acN : Cond.native arraycopyName ∈ gtbl := in_g (List.mem_of_getElem? (i := 326) (by decide +kernel)) (by decide +kernel)
theorem w_acS : Cond.static arraycopyName ∈ gtbl := in_g (List.mem_of_getElem? (i := 325) (by decide +kernel)) (by decide +kernel)
theorem w_SysI : Cond.initialized "java/lang/System" ∈ gtbl := in_g (List.mem_of_getElem? (i := 79) (by decide +kernel)) (by decide +kernel)
theorem wl_X2_55 : Cond.methodLink RX2 55 arraycopyName ∈ gtbl := in_g (List.mem_of_getElem? (i := 469) (by decide +kernel)) (by decide +kernel)
theorem wl_X2_71 : Cond.methodLink RX2 71 Lib.Math.min.name ∈ gtbl := in_g (List.mem_of_getElem? (i := 552) (by decide +kernel)) (by decide +kernel)
theorem wl_X2_90 : Cond.methodLink RX2 90 Lib.Math.max.name ∈ gtbl := in_g (List.mem_of_getElem? (i := 531) (by decide +kernel)) (by decide +kernel)
theorem wl_X5_102 : Cond.methodLink RX5 102 arraycopyName ∈ gtbl := in_g (List.mem_of_getElem? (i := 324) (by decide +kernel)) (by decide +kernel)
theorem hasB_w : ∀ w : Nat, w < 64 → ∀ c : Nat, c < 6 → (¬ (nI w >>> (nI c &&& 31)) &&& nI 1 = 0 ↔ hasB (nI w) (nI c)) := by decide +kernel
theorem evn : ∀ x : Nat, x ≤ 100 → nI x - (nI x &&& nI 1) = nI (x / 2 * 2) := by decide +kernel
theorem gapI {x y : Nat} (hx : x ≤ 100) (hy : y ≤ 100) : (nI x - nI y).toInt = (x : Int) - y := by
  rw [fb_subI (by rw [nI_toInt (by omega), nI_toInt (by omega)]; omega) (by rw [nI_toInt (by omega), nI_toInt (by omega)]; omega), nI_toInt (by omega), nI_toInt (by omega)]
theorem Rg.n6 {n : Nat} {S : Nat → Int32} (h : Rg n S) : n ≤ 6 := h.1
theorem Rg.c {n : Nat} {S : Nat → Int32} (h : Rg n S) {c : Nat} (hc : c < n) : Rc S c := h.2.2.2.2 c hc
theorem Rg.w {n : Nat} {S : Nat → Int32} (h : Rg n S) : ∃ w, w < 64 ∧ S 4 = nI w := by
  obtain ⟨w, hw, e⟩ := h.2.2.2.1
  have := two6 n h.1
  exact ⟨w, by omega, e⟩
set_option maxHeartbeats 4000000 in
set_option maxRecDepth 100000 in
theorem c_X2_isWatched_18 (l : Launch) (G : Gx) (M : Mem) (c w : Nat) (hc : c < 6) (hw : M 18 4 = nI w) (hw64 : w < 64) : Con l G yX2_isWatched cX2_isWatched 2 (some .boolean) 0 0 [.ref (gA G 18), .int (nI c)] M (rI (bI (hasB (M 18 4) (nI c))) M) := by
  refine Con.ofV [some (.ref (gA G 18)), some (.int (nI c))] RX2 (by decide) rfl (Nat.le_of_ble_eq_true rfl) rfl ?_
  intro κ hl hG hk0 hn0
  subst hl hG
  have hcs : κ.k ≤ 0 ∧ κ.n ≤ 0 := ⟨Nat.le_of_eq hk0, Nat.le_of_eq hn0⟩
  rw [show bI (hasB (M 18 4) (nI c)) = bI (hasB (nI w) (nI c)) by rw [hw]]
  refine r_aload_n (pc := 0) dX2_isWatched_0 rfl ?_
  refine gf_X2_46 (pc := 1) dX2_isWatched_1 rfl ?_
  refine r_is (nI w) (hw) ?_
  refine r_iload_n (pc := 4) dX2_isWatched_4 rfl ?_
  refine r_ishr (pc := 5) dX2_isWatched_5 ?_
  refine r_iconst (v := nI 1) (pc := 6) dX2_isWatched_6 (by decide) ?_
  refine r_iand (pc := 7) dX2_isWatched_7 ?_
  refine r_if_eq (tgt := 15) (pc := 8) dX2_isWatched_8 (by decide) (fun h8 => ?_) (fun h8 => ?_)
  · have hp : ¬ hasB (nI w) (nI c) := fun z => (hasB_w w hw64 c hc).mpr z h8
    refine r_iconst (v := nI 0) (pc := 15) dX2_isWatched_15 (by decide) ?_
    exact r_zret (pc := 16) dX2_isWatched_16 rfl (by first | rfl | exact bI_narrow) (by first | exact rI_1 hp | exact rI_0 hp)
  · have hp : hasB (nI w) (nI c) := (hasB_w w hw64 c hc).mp h8
    refine r_iconst (v := nI 1) (pc := 11) dX2_isWatched_11 (by decide) ?_
    refine r_goto (tgt := 16) (pc := 12) dX2_isWatched_12 (by decide) ?_
    exact r_zret (pc := 16) dX2_isWatched_16 rfl (by first | rfl | exact bI_narrow) (by first | exact rI_1 hp | exact rI_0 hp)
set_option maxHeartbeats 4000000 in
set_option maxRecDepth 100000 in
theorem c_X2_highOf_18 (l : Launch) (G : Gx) (M : Mem) (c : Nat) (S : Nat → Int32) (n : Nat) (hm : ms 18 n S M) (hR : Rg n S) (hc : c < n) : Con l G yX2_highOf cX2_highOf 3 (some .int) 0 0 [.ref (gA G 18), .int (nI c)] M (rI (highS S c) M) := by
  refine Con.ofV [some (.ref (gA G 18)), some (.int (nI c)), none] RX2 (by decide) rfl (Nat.le_of_ble_eq_true rfl) rfl ?_
  intro κ hl hG hk0 hn0
  subst hl hG
  have hcs : κ.k ≤ 0 ∧ κ.n ≤ 0 := ⟨Nat.le_of_eq hk0, Nat.le_of_eq hn0⟩
  have hn6 := hR.1
  obtain ⟨e1, e2, e3, -⟩ := hm.2.2.2.2.2 c hc
  have hcc := hR.c hc
  obtain ⟨⟨k, hk1, hk, ek⟩, ⟨l, hl, el⟩, -, -, ⟨f, hf, ef⟩⟩ := hcc
  have hh : highS S c = nI (hB k l f) := by rw [highS, ek, el, ef, highB_n hk hl hf]
  have a1 : M 19 c = nI k := e1.trans ek
  have a2 : M 20 c = nI l := e2.trans el
  have a3 : M 21 c = nI f := e3.trans ef
  have hkk : ∀ q, q ≤ 5 → nI k = nI q → k = q := fun q hq z => (nI_eq (by omega) (by omega)).mp z
  refine r_aload_n (pc := 0) dX2_highOf_0 rfl ?_
  refine gf_X2_15 (pc := 1) dX2_highOf_1 rfl ?_
  refine r_iload_n (pc := 4) dX2_highOf_4 rfl ?_
  refine r_iald (pc := 5) dX2_highOf_5 rfl (show _ < 6 by omega) ?_
  refine r_is (nI l) a2 ?_
  refine r_aload_n (pc := 6) dX2_highOf_6 rfl ?_
  refine gf_X2_18 (pc := 7) dX2_highOf_7 rfl ?_
  refine r_iload_n (pc := 10) dX2_highOf_10 rfl ?_
  refine r_iald (pc := 11) dX2_highOf_11 rfl (show _ < 6 by omega) ?_
  refine r_is (nI f) a3 ?_
  first | with_reducible refine r_iaddN (pc := 12) dX2_highOf_12 ?_ | refine r_iadd (pc := 12) dX2_highOf_12 ?_
  refine r_st_n [_, _, _] (pc := 13) dX2_highOf_13 (by decide) rfl rfl ?_
  refine r_aload_n (pc := 14) dX2_highOf_14 rfl ?_
  refine gf_X2_9 (pc := 15) dX2_highOf_15 rfl ?_
  refine r_iload_n (pc := 18) dX2_highOf_18 rfl ?_
  refine r_iald (pc := 19) dX2_highOf_19 rfl (show _ < 6 by omega) ?_
  refine r_is (nI k) a1 ?_
  refine r_tsw (lo := 2) (hi := 5) (tgt := 96) (pc := 20) dX2_highOf_20 (by decide) (fun h20 => ?_) (fun q20 a20 b20 h20 => ?_)
  · refine r_iload_n (pc := 96) dX2_highOf_96 rfl ?_
    refine r_is (highS S c) (by rw [hh, hB, if_neg (fun z => h20 2 (by omega) (by omega) (by omega) (by rw [z])), if_neg (fun z => h20 3 (by omega) (by omega) (by omega) (by rw [z])), if_neg (fun z => h20 4 (by omega) (by omega) (by omega) (by rw [z])), if_neg (fun z => h20 5 (by omega) (by omega) (by omega) (by rw [z]))]) ?_
    exact r_iret (pc := 97) dX2_highOf_97 rfl ⟨rfl, rfl⟩
  · rcases (show q20 = 2 ∨ q20 = 3 ∨ q20 = 4 ∨ q20 = 5 by omega) with rfl | rfl | rfl | rfl
    · refine r_tableIn (off := 32) (tgt := 52) (pc := 20) dX2_highOf_20 (by decide) (by decide) rfl (by decide) ?_
      refine r_iload_n (pc := 52) dX2_highOf_52 rfl ?_
      refine r_iload_n (pc := 53) dX2_highOf_53 rfl ?_
      refine r_iconst (v := nI 1) (pc := 54) dX2_highOf_54 (by decide) ?_
      refine r_iand (pc := 55) dX2_highOf_55 ?_
      first | (with_reducible refine r_isubN (pc := 56) dX2_highOf_56 ?hle ?_; case hle => omega) | refine r_isub (pc := 56) dX2_highOf_56 ?_
      refine r_is (highS S c) (by rw [hh, hB, if_pos (hkk 2 (by omega) h20)]; exact evn _ (by omega)) ?_
      exact r_iret (pc := 57) dX2_highOf_57 rfl ⟨rfl, rfl⟩
    · refine r_tableIn (off := 38) (tgt := 58) (pc := 20) dX2_highOf_20 (by decide) (by decide) rfl (by decide) ?_
      refine r_iload_n (pc := 58) dX2_highOf_58 rfl ?_
      refine r_aload_n (pc := 59) dX2_highOf_59 rfl ?_
      refine gf_X2_18 (pc := 60) dX2_highOf_60 rfl ?_
      refine r_iload_n (pc := 63) dX2_highOf_63 rfl ?_
      refine r_iald (pc := 64) dX2_highOf_64 rfl (show _ < 6 by omega) ?_
      refine r_is (nI f) a3 ?_
      first | with_reducible refine r_iaddN (pc := 65) dX2_highOf_65 ?_ | refine r_iadd (pc := 65) dX2_highOf_65 ?_
      refine r_is (highS S c) (by have h3 := hkk 3 (by omega) h20; rw [hh, hB, if_neg (by omega), if_pos h3]; congr 1; omega) ?_
      exact r_iret (pc := 66) dX2_highOf_66 rfl ⟨rfl, rfl⟩
    · refine r_tableIn (off := 47) (tgt := 67) (pc := 20) dX2_highOf_20 (by decide) (by decide) rfl (by decide) ?_
      refine r_aload_n (pc := 67) dX2_highOf_67 rfl ?_
      refine gf_X2_15 (pc := 68) dX2_highOf_68 rfl ?_
      refine r_iload_n (pc := 71) dX2_highOf_71 rfl ?_
      refine r_iald (pc := 72) dX2_highOf_72 rfl (show _ < 6 by omega) ?_
      refine r_is (highS S c) (by have h3 := hkk 4 (by omega) h20; rw [hh, hB, if_neg (by omega), if_neg (by omega), if_pos h3]; exact a2) ?_
      exact r_iret (pc := 73) dX2_highOf_73 rfl ⟨rfl, rfl⟩
    · refine r_tableIn (off := 54) (tgt := 74) (pc := 20) dX2_highOf_20 (by decide) (by decide) rfl (by decide) ?_
      refine r_aload_n (pc := 74) dX2_highOf_74 rfl ?_
      refine gf_X2_15 (pc := 75) dX2_highOf_75 rfl ?_
      refine r_iload_n (pc := 78) dX2_highOf_78 rfl ?_
      refine r_iald (pc := 79) dX2_highOf_79 rfl (show _ < 6 by omega) ?_
      refine r_is (nI l) a2 ?_
      refine r_if_le (tgt := 94) (pc := 80) dX2_highOf_80 (by decide) (fun h80 => ?_) (fun h80 => ?_)
      · have h3 := hkk 5 (by omega) h20
        have h0 : l = 0 := by have := (nI_leI (a := l) (b := 0) (by omega) (by omega)).mp h80; omega
        refine r_iconst (v := nI 0) (pc := 94) dX2_highOf_94 (by decide) ?_
        exact r_iret (pc := 95) dX2_highOf_95 rfl ⟨by rw [hh, hB, if_neg (by omega), if_neg (by omega), if_neg (by omega), if_pos h3]; first | rw [if_pos h0] | rw [if_neg h0], rfl⟩
      · have h3 := hkk 5 (by omega) h20
        have h0 : l ≠ 0 := fun z => h80 (by rw [z]; decide)
        refine r_aload_n (pc := 83) dX2_highOf_83 rfl ?_
        refine gf_X2_15 (pc := 84) dX2_highOf_84 rfl ?_
        refine r_iload_n (pc := 87) dX2_highOf_87 rfl ?_
        refine r_iald (pc := 88) dX2_highOf_88 rfl (show _ < 6 by omega) ?_
        refine r_is (nI l) a2 ?_
        refine r_iconst (v := nI 5) (pc := 89) dX2_highOf_89 (by decide) ?_
        first | with_reducible refine r_iaddN (pc := 90) dX2_highOf_90 ?_ | refine r_iadd (pc := 90) dX2_highOf_90 ?_
        refine r_goto (tgt := 95) (pc := 91) dX2_highOf_91 (by decide) ?_
        exact r_iret (pc := 95) dX2_highOf_95 rfl ⟨by rw [hh, hB, if_neg (by omega), if_neg (by omega), if_neg (by omega), if_pos h3]; first | rw [if_pos h0] | rw [if_neg h0], rfl⟩
set_option maxHeartbeats 4000000 in
set_option maxRecDepth 100000 in
theorem c_X2_isHigher_18 (l : Launch) (G : Gx) (M : Mem) (a b : Nat) (S : Nat → Int32) (n : Nat) (hm : ms 18 n S M) (hR : Rg n S) (ha : a < n) (hb : b < n) : Con l G yX2_isHigher cX2_isHigher 4 (some .boolean) 1 22 [.ref (gA G 18), .int (nI a), .int (nI b)] M (rI (bI (abv S a b = true)) M) := by
  refine Con.ofV [some (.ref (gA G 18)), some (.int (nI a)), some (.int (nI b)), none] RX2 (by decide) rfl (Nat.le_of_ble_eq_true rfl) rfl ?_
  intro κ hl hG hk0 hn0
  subst hl hG
  have hcs : κ.k ≤ 0 ∧ κ.n ≤ 0 := ⟨Nat.le_of_eq hk0, Nat.le_of_eq hn0⟩
  have hn6 := hR.1
  obtain ⟨x, hx, ex⟩ := (hR.c ha).high
  obtain ⟨y, hy, ey⟩ := (hR.c hb).high
  have hi := abv_iff S a b
  rw [ex, ey, nI_toInt (by omega), nI_toInt (by omega)] at hi
  have hg := gapI hx hy
  refine r_aload_n (pc := 0) dX2_isHigher_0 rfl ?_
  refine r_iload_n (pc := 1) dX2_isHigher_1 rfl ?_
  refine iv_X2_61 (c_X2_highOf_18 _ _ _ a S n hm hR ha) (pc := 2) dX2_isHigher_2 rfl ⟨Nat.le_of_ble_eq_true rfl, Nat.le_of_ble_eq_true rfl⟩ (Nat.le_of_ble_eq_true rfl) hcs (kI ?_)
  refine r_is (nI x) ex ?_
  refine r_aload_n (pc := 5) dX2_isHigher_5 rfl ?_
  refine r_iload_n (pc := 6) dX2_isHigher_6 rfl ?_
  refine iv_X2_61 (c_X2_highOf_18 _ _ _ b S n hm hR hb) (pc := 7) dX2_isHigher_7 rfl ⟨Nat.le_of_ble_eq_true rfl, Nat.le_of_ble_eq_true rfl⟩ (Nat.le_of_ble_eq_true rfl) hcs (kI ?_)
  refine r_is (nI y) ey ?_
  refine r_isub (pc := 10) dX2_isHigher_10 ?_
  refine r_st_n [_, _, _, _] (pc := 11) dX2_isHigher_11 (by decide) rfl rfl ?_
  refine r_iload_n (pc := 12) dX2_isHigher_12 rfl ?_
  refine r_if_gt (tgt := 25) (pc := 13) dX2_isHigher_13 (by decide) (fun h13 => ?_) (fun h13 => ?_)
  · have hp : abv S a b = true := hi.mpr (by rw [fa_lt, hg] at h13; have : (0 : Int32).toInt = 0 := rfl; omega)
    refine r_iconst (v := nI 1) (pc := 25) dX2_isHigher_25 (by decide) ?_
    refine r_goto (tgt := 30) (pc := 26) dX2_isHigher_26 (by decide) ?_
    exact r_zret (pc := 30) dX2_isHigher_30 rfl (by first | rfl | exact bI_narrow) (by first | exact rI_1 hp | exact rI_0 hp)
  · have g13 : ¬ y < x := by rw [fa_lt, hg] at h13; have : (0 : Int32).toInt = 0 := rfl; omega
    refine r_iload_n (pc := 16) dX2_isHigher_16 rfl ?_
    refine r_if_ne (tgt := 29) (pc := 17) dX2_isHigher_17 (by decide) (fun h17 => ?_) (fun h17 => ?_)
    · have hp : ¬ abv S a b = true := fun z => h17 (by rw [fa_eq, hg]; have := hi.mp z; have : (0 : Int32).toInt = 0 := rfl; omega)
      refine r_iconst (v := nI 0) (pc := 29) dX2_isHigher_29 (by decide) ?_
      exact r_zret (pc := 30) dX2_isHigher_30 rfl (by first | rfl | exact bI_narrow) (by first | exact rI_1 hp | exact rI_0 hp)
    · have g17 : x = y := by rw [fa_eq, hg] at h17; have : (0 : Int32).toInt = 0 := rfl; omega
      refine r_iload_n (pc := 20) dX2_isHigher_20 rfl ?_
      refine r_iload_n (pc := 21) dX2_isHigher_21 rfl ?_
      refine r_icmp_ge (tgt := 29) (pc := 22) dX2_isHigher_22 (by decide) (fun h22 => ?_) (fun h22 => ?_)
      · have hp : ¬ abv S a b = true := fun z => by have := hi.mp z; have := (nI_leI (by omega) (by omega)).mp h22; omega
        refine r_iconst (v := nI 0) (pc := 29) dX2_isHigher_29 (by decide) ?_
        exact r_zret (pc := 30) dX2_isHigher_30 rfl (by first | rfl | exact bI_narrow) (by first | exact rI_1 hp | exact rI_0 hp)
      · have hp : abv S a b = true := hi.mpr (Or.inr ⟨by omega, Nat.not_le.mp (fun z => h22 ((nI_leI (by omega) (by omega)).mpr z))⟩)
        refine r_iconst (v := nI 1) (pc := 25) dX2_isHigher_25 (by decide) ?_
        refine r_goto (tgt := 30) (pc := 26) dX2_isHigher_26 (by decide) ?_
        exact r_zret (pc := 30) dX2_isHigher_30 rfl (by first | rfl | exact bI_narrow) (by first | exact rI_1 hp | exact rI_0 hp)
set_option maxHeartbeats 4000000 in
set_option maxRecDepth 100000 in
theorem c_X2_allLegs_18 (l : Launch) (G : Gx) (M : Mem) (S : Nat → Int32) (n : Nat) (hm : ms 18 n S M) (hR : Rg n S) : Con l G yX2_allLegs cX2_allLegs 3 (some .int) 0 0 [.ref (gA G 18)] M (rI (sumN S 11 n) M) := by
  refine Con.ofV [some (.ref (gA G 18)), none, none] RX2 (by decide) rfl (Nat.le_of_ble_eq_true rfl) rfl ?_
  intro κ hl hG hk0 hn0
  subst hl hG
  have hcs : κ.k ≤ 0 ∧ κ.n ≤ 0 := ⟨Nat.le_of_eq hk0, Nat.le_of_eq hn0⟩
  have hn6 := hR.1
  refine r_iconst (v := nI 0) (pc := 0) dX2_allLegs_0 (by decide) ?_
  refine r_st_n [_, _, _] (pc := 1) dX2_allLegs_1 (by decide) rfl rfl ?_
  refine r_iconst (v := nI 0) (pc := 2) dX2_allLegs_2 (by decide) ?_
  refine r_st_n [_, _, _] (pc := 3) dX2_allLegs_3 (by decide) rfl rfl ?_
  refine V.bk (loopV (fun (σ : Nat) => V κ cX2_allLegs RX2 3 (some .int) (rmx 0 0) (QM κ (rI (sumN S 11 n) M)) M 4 [some (.ref (gA κ.G 18)), some (.int (sumN S 11 σ)), some (.int (nI σ))] []) (fun (σ : Nat) => σ ≤ n) (fun (σ : Nat) => n - σ) ?_ 0 (Nat.zero_le _)) rfl (by (repeat (first | exact wk_0 | refine wk_n ?_ | refine wk_s rfl ?_)); done)
  rintro j hj ih
  show V κ cX2_allLegs RX2 3 (some .int) (rmx 0 0) (QM κ (rI (sumN S 11 n) M)) M 4 [some (.ref (gA κ.G 18)), some (.int (sumN S 11 j)), some (.int (nI j))] []
  refine r_iload_n (pc := 4) dX2_allLegs_4 rfl ?_
  refine r_aload_n (pc := 5) dX2_allLegs_5 rfl ?_
  refine gf_X2_39 (pc := 6) dX2_allLegs_6 rfl ?_
  refine r_is (nI n) (hm.1) ?_
  refine r_icmp_ge (tgt := 27) (pc := 9) dX2_allLegs_9 (by decide) (fun h9 => ?_) (fun h9 => ?_)
  · have h9 : n ≤ j := (nI_leI (by omega) (by omega)).mp h9
    obtain rfl : n = j := by omega
    refine r_iload_n (pc := 27) dX2_allLegs_27 rfl ?_
    exact r_iret (pc := 28) dX2_allLegs_28 rfl ⟨rfl, rfl⟩
  · have h9 : j < n := Nat.not_le.mp (fun z => h9 ((nI_leI (by omega) (by omega)).mpr z))
    refine r_iload_n (pc := 12) dX2_allLegs_12 rfl ?_
    refine r_aload_n (pc := 13) dX2_allLegs_13 rfl ?_
    refine gf_X2_15 (pc := 14) dX2_allLegs_14 rfl ?_
    refine r_iload_n (pc := 17) dX2_allLegs_17 rfl ?_
    refine r_iald (pc := 18) dX2_allLegs_18 rfl (show _ < 6 by omega) ?_
    refine r_is (S (11 + j)) (hm.2.2.2.2.2 j (by omega)).2.1 ?_
    first | with_reducible refine r_iaddN (pc := 19) dX2_allLegs_19 ?_ | refine r_iadd (pc := 19) dX2_allLegs_19 ?_
    refine r_st_n [_, _, _] (pc := 20) dX2_allLegs_20 (by decide) rfl rfl ?_
    first | refine r_inc [_, _, _] (pc := 21) dX2_allLegs_21 rfl (nI_inc _) (by decide) rfl rfl ?_ | refine r_inc [_, _, _] (pc := 21) dX2_allLegs_21 rfl rfl (by decide) rfl rfl ?_
    refine r_goto (tgt := 4) (pc := 24) dX2_allLegs_24 (by decide) ?_
    exact V.bk (ih (j + 1) (by omega) (by omega)) rfl (by (repeat (first | exact wk_0 | refine wk_n ?_ | refine wk_s rfl ?_)); done)
set_option maxHeartbeats 4000000 in
set_option maxRecDepth 100000 in
theorem c_X2_allCaught_18 (l : Launch) (G : Gx) (M : Mem) (S : Nat → Int32) (n : Nat) (hm : ms 18 n S M) (hR : Rg n S) : Con l G yX2_allCaught cX2_allCaught 3 (some .int) 0 0 [.ref (gA G 18)] M (rI (sumN S 35 n) M) := by
  refine Con.ofV [some (.ref (gA G 18)), none, none] RX2 (by decide) rfl (Nat.le_of_ble_eq_true rfl) rfl ?_
  intro κ hl hG hk0 hn0
  subst hl hG
  have hcs : κ.k ≤ 0 ∧ κ.n ≤ 0 := ⟨Nat.le_of_eq hk0, Nat.le_of_eq hn0⟩
  have hn6 := hR.1
  refine r_iconst (v := nI 0) (pc := 0) dX2_allCaught_0 (by decide) ?_
  refine r_st_n [_, _, _] (pc := 1) dX2_allCaught_1 (by decide) rfl rfl ?_
  refine r_iconst (v := nI 0) (pc := 2) dX2_allCaught_2 (by decide) ?_
  refine r_st_n [_, _, _] (pc := 3) dX2_allCaught_3 (by decide) rfl rfl ?_
  refine V.bk (loopV (fun (σ : Nat) => V κ cX2_allCaught RX2 3 (some .int) (rmx 0 0) (QM κ (rI (sumN S 35 n) M)) M 4 [some (.ref (gA κ.G 18)), some (.int (sumN S 35 σ)), some (.int (nI σ))] []) (fun (σ : Nat) => σ ≤ n) (fun (σ : Nat) => n - σ) ?_ 0 (Nat.zero_le _)) rfl (by (repeat (first | exact wk_0 | refine wk_n ?_ | refine wk_s rfl ?_)); done)
  rintro j hj ih
  show V κ cX2_allCaught RX2 3 (some .int) (rmx 0 0) (QM κ (rI (sumN S 35 n) M)) M 4 [some (.ref (gA κ.G 18)), some (.int (sumN S 35 j)), some (.int (nI j))] []
  refine r_iload_n (pc := 4) dX2_allCaught_4 rfl ?_
  refine r_aload_n (pc := 5) dX2_allCaught_5 rfl ?_
  refine gf_X2_39 (pc := 6) dX2_allCaught_6 rfl ?_
  refine r_is (nI n) (hm.1) ?_
  refine r_icmp_ge (tgt := 27) (pc := 9) dX2_allCaught_9 (by decide) (fun h9 => ?_) (fun h9 => ?_)
  · have h9 : n ≤ j := (nI_leI (by omega) (by omega)).mp h9
    obtain rfl : n = j := by omega
    refine r_iload_n (pc := 27) dX2_allCaught_27 rfl ?_
    exact r_iret (pc := 28) dX2_allCaught_28 rfl ⟨rfl, rfl⟩
  · have h9 : j < n := Nat.not_le.mp (fun z => h9 ((nI_leI (by omega) (by omega)).mpr z))
    refine r_iload_n (pc := 12) dX2_allCaught_12 rfl ?_
    refine r_aload_n (pc := 13) dX2_allCaught_13 rfl ?_
    refine gf_X2_27 (pc := 14) dX2_allCaught_14 rfl ?_
    refine r_iload_n (pc := 17) dX2_allCaught_17 rfl ?_
    refine r_iald (pc := 18) dX2_allCaught_18 rfl (show _ < 6 by omega) ?_
    refine r_is (S (35 + j)) (hm.2.2.2.2.2 j (by omega)).2.2.2.2.2 ?_
    first | with_reducible refine r_iaddN (pc := 19) dX2_allCaught_19 ?_ | refine r_iadd (pc := 19) dX2_allCaught_19 ?_
    refine r_st_n [_, _, _] (pc := 20) dX2_allCaught_20 (by decide) rfl rfl ?_
    first | refine r_inc [_, _, _] (pc := 21) dX2_allCaught_21 rfl (nI_inc _) (by decide) rfl rfl ?_ | refine r_inc [_, _, _] (pc := 21) dX2_allCaught_21 rfl rfl (by decide) rfl rfl ?_
    refine r_goto (tgt := 4) (pc := 24) dX2_allCaught_24 (by decide) ?_
    exact V.bk (ih (j + 1) (by omega) (by omega)) rfl (by (repeat (first | exact wk_0 | refine wk_n ?_ | refine wk_s rfl ?_)); done)
set_option maxHeartbeats 4000000 in
set_option maxRecDepth 100000 in
theorem c_X2_glueLeg_18 (l : Launch) (G : Gx) (M : Mem) (c : Nat) (S : Nat → Int32) (n : Nat) (hm : ms 18 n S M) (hR : Rg n S) (hc : c < n) : Con l G yX2_glueLeg cX2_glueLeg 2 none 1 60 [.ref (gA G 18), .int (nI c)] M (rV (mset M 20 c (glueV S c))) := by
  refine Con.ofV [some (.ref (gA G 18)), some (.int (nI c))] RX2 (by decide) rfl (Nat.le_of_ble_eq_true rfl) rfl ?_
  intro κ hl hG hk0 hn0
  subst hl hG
  have hcs : κ.k ≤ 0 ∧ κ.n ≤ 0 := ⟨Nat.le_of_eq hk0, Nat.le_of_eq hn0⟩
  have hn6 := hR.1
  refine r_aload_n (pc := 0) dX2_glueLeg_0 rfl ?_
  refine gf_X2_15 (pc := 1) dX2_glueLeg_1 rfl ?_
  refine r_iload_n (pc := 4) dX2_glueLeg_4 rfl ?_
  refine r_bipush (v := nI 60) (pc := 5) dX2_glueLeg_5 (by decide) ?_
  refine r_aload_n (pc := 7) dX2_glueLeg_7 rfl ?_
  refine gf_X2_15 (pc := 8) dX2_glueLeg_8 rfl ?_
  refine r_iload_n (pc := 11) dX2_glueLeg_11 rfl ?_
  refine r_iald (pc := 12) dX2_glueLeg_12 rfl (show _ < 6 by omega) ?_
  refine r_is (S (11 + c)) (hm.2.2.2.2.2 c hc).2.1 ?_
  refine r_aload_n (pc := 13) dX2_glueLeg_13 rfl ?_
  refine gf_X2_52 (pc := 14) dX2_glueLeg_14 rfl ?_
  refine r_is (S 1) (hm.2.2.1) ?_
  first | with_reducible refine r_iaddN (pc := 17) dX2_glueLeg_17 ?_ | refine r_iadd (pc := 17) dX2_glueLeg_17 ?_
  refine r_min (pc := 18) dX2_glueLeg_18 wl_X2_71 w_minS w_MathI w_minC (Nat.le_of_ble_eq_true rfl) (Nat.le_of_ble_eq_true rfl) hcs.1 hcs.2 ?_
  refine r_is (glueV S c) (by unfold glueV; by_cases h : S (11 + c) + S 1 < nI 60; rw [if_pos h, if_pos (fa_of_lt h).1]; rw [if_neg h]; by_cases h2 : S (11 + c) + S 1 ≤ nI 60; rw [if_pos h2]; exact (Int32.le_antisymm h2 (fa_of_nlt h)).symm; rw [if_neg h2]) ?_
  refine r_iast (pc := 21) dX2_glueLeg_21 rfl (show _ < 6 by omega) ?_
  exact r_vret (pc := 22) dX2_glueLeg_22 rfl ⟨rfl, rfl⟩
set_option maxHeartbeats 4000000 in
set_option maxRecDepth 100000 in
theorem c_X2_isWatched_28 (l : Launch) (G : Gx) (M : Mem) (c w : Nat) (hc : c < 6) (hw : M 28 4 = nI w) (hw64 : w < 64) : Con l G yX2_isWatched cX2_isWatched 2 (some .boolean) 0 0 [.ref (gA G 28), .int (nI c)] M (rI (bI (hasB (M 28 4) (nI c))) M) := by
  refine Con.ofV [some (.ref (gA G 28)), some (.int (nI c))] RX2 (by decide) rfl (Nat.le_of_ble_eq_true rfl) rfl ?_
  intro κ hl hG hk0 hn0
  subst hl hG
  have hcs : κ.k ≤ 0 ∧ κ.n ≤ 0 := ⟨Nat.le_of_eq hk0, Nat.le_of_eq hn0⟩
  rw [show bI (hasB (M 28 4) (nI c)) = bI (hasB (nI w) (nI c)) by rw [hw]]
  refine r_aload_n (pc := 0) dX2_isWatched_0 rfl ?_
  refine gf_X2_46 (pc := 1) dX2_isWatched_1 rfl ?_
  refine r_is (nI w) (hw) ?_
  refine r_iload_n (pc := 4) dX2_isWatched_4 rfl ?_
  refine r_ishr (pc := 5) dX2_isWatched_5 ?_
  refine r_iconst (v := nI 1) (pc := 6) dX2_isWatched_6 (by decide) ?_
  refine r_iand (pc := 7) dX2_isWatched_7 ?_
  refine r_if_eq (tgt := 15) (pc := 8) dX2_isWatched_8 (by decide) (fun h8 => ?_) (fun h8 => ?_)
  · have hp : ¬ hasB (nI w) (nI c) := fun z => (hasB_w w hw64 c hc).mpr z h8
    refine r_iconst (v := nI 0) (pc := 15) dX2_isWatched_15 (by decide) ?_
    exact r_zret (pc := 16) dX2_isWatched_16 rfl (by first | rfl | exact bI_narrow) (by first | exact rI_1 hp | exact rI_0 hp)
  · have hp : hasB (nI w) (nI c) := (hasB_w w hw64 c hc).mp h8
    refine r_iconst (v := nI 1) (pc := 11) dX2_isWatched_11 (by decide) ?_
    refine r_goto (tgt := 16) (pc := 12) dX2_isWatched_12 (by decide) ?_
    exact r_zret (pc := 16) dX2_isWatched_16 rfl (by first | rfl | exact bI_narrow) (by first | exact rI_1 hp | exact rI_0 hp)
set_option maxHeartbeats 4000000 in
set_option maxRecDepth 100000 in
theorem c_X2_highOf_28 (l : Launch) (G : Gx) (M : Mem) (c : Nat) (S : Nat → Int32) (n : Nat) (hm : ms 28 n S M) (hR : Rg n S) (hc : c < n) : Con l G yX2_highOf cX2_highOf 3 (some .int) 0 0 [.ref (gA G 28), .int (nI c)] M (rI (highS S c) M) := by
  refine Con.ofV [some (.ref (gA G 28)), some (.int (nI c)), none] RX2 (by decide) rfl (Nat.le_of_ble_eq_true rfl) rfl ?_
  intro κ hl hG hk0 hn0
  subst hl hG
  have hcs : κ.k ≤ 0 ∧ κ.n ≤ 0 := ⟨Nat.le_of_eq hk0, Nat.le_of_eq hn0⟩
  have hn6 := hR.1
  obtain ⟨e1, e2, e3, -⟩ := hm.2.2.2.2.2 c hc
  have hcc := hR.c hc
  obtain ⟨⟨k, hk1, hk, ek⟩, ⟨l, hl, el⟩, -, -, ⟨f, hf, ef⟩⟩ := hcc
  have hh : highS S c = nI (hB k l f) := by rw [highS, ek, el, ef, highB_n hk hl hf]
  have a1 : M 29 c = nI k := e1.trans ek
  have a2 : M 30 c = nI l := e2.trans el
  have a3 : M 31 c = nI f := e3.trans ef
  have hkk : ∀ q, q ≤ 5 → nI k = nI q → k = q := fun q hq z => (nI_eq (by omega) (by omega)).mp z
  refine r_aload_n (pc := 0) dX2_highOf_0 rfl ?_
  refine gf_X2_15 (pc := 1) dX2_highOf_1 rfl ?_
  refine r_iload_n (pc := 4) dX2_highOf_4 rfl ?_
  refine r_iald (pc := 5) dX2_highOf_5 rfl (show _ < 6 by omega) ?_
  refine r_is (nI l) a2 ?_
  refine r_aload_n (pc := 6) dX2_highOf_6 rfl ?_
  refine gf_X2_18 (pc := 7) dX2_highOf_7 rfl ?_
  refine r_iload_n (pc := 10) dX2_highOf_10 rfl ?_
  refine r_iald (pc := 11) dX2_highOf_11 rfl (show _ < 6 by omega) ?_
  refine r_is (nI f) a3 ?_
  first | with_reducible refine r_iaddN (pc := 12) dX2_highOf_12 ?_ | refine r_iadd (pc := 12) dX2_highOf_12 ?_
  refine r_st_n [_, _, _] (pc := 13) dX2_highOf_13 (by decide) rfl rfl ?_
  refine r_aload_n (pc := 14) dX2_highOf_14 rfl ?_
  refine gf_X2_9 (pc := 15) dX2_highOf_15 rfl ?_
  refine r_iload_n (pc := 18) dX2_highOf_18 rfl ?_
  refine r_iald (pc := 19) dX2_highOf_19 rfl (show _ < 6 by omega) ?_
  refine r_is (nI k) a1 ?_
  refine r_tsw (lo := 2) (hi := 5) (tgt := 96) (pc := 20) dX2_highOf_20 (by decide) (fun h20 => ?_) (fun q20 a20 b20 h20 => ?_)
  · refine r_iload_n (pc := 96) dX2_highOf_96 rfl ?_
    refine r_is (highS S c) (by rw [hh, hB, if_neg (fun z => h20 2 (by omega) (by omega) (by omega) (by rw [z])), if_neg (fun z => h20 3 (by omega) (by omega) (by omega) (by rw [z])), if_neg (fun z => h20 4 (by omega) (by omega) (by omega) (by rw [z])), if_neg (fun z => h20 5 (by omega) (by omega) (by omega) (by rw [z]))]) ?_
    exact r_iret (pc := 97) dX2_highOf_97 rfl ⟨rfl, rfl⟩
  · rcases (show q20 = 2 ∨ q20 = 3 ∨ q20 = 4 ∨ q20 = 5 by omega) with rfl | rfl | rfl | rfl
    · refine r_tableIn (off := 32) (tgt := 52) (pc := 20) dX2_highOf_20 (by decide) (by decide) rfl (by decide) ?_
      refine r_iload_n (pc := 52) dX2_highOf_52 rfl ?_
      refine r_iload_n (pc := 53) dX2_highOf_53 rfl ?_
      refine r_iconst (v := nI 1) (pc := 54) dX2_highOf_54 (by decide) ?_
      refine r_iand (pc := 55) dX2_highOf_55 ?_
      first | (with_reducible refine r_isubN (pc := 56) dX2_highOf_56 ?hle ?_; case hle => omega) | refine r_isub (pc := 56) dX2_highOf_56 ?_
      refine r_is (highS S c) (by rw [hh, hB, if_pos (hkk 2 (by omega) h20)]; exact evn _ (by omega)) ?_
      exact r_iret (pc := 57) dX2_highOf_57 rfl ⟨rfl, rfl⟩
    · refine r_tableIn (off := 38) (tgt := 58) (pc := 20) dX2_highOf_20 (by decide) (by decide) rfl (by decide) ?_
      refine r_iload_n (pc := 58) dX2_highOf_58 rfl ?_
      refine r_aload_n (pc := 59) dX2_highOf_59 rfl ?_
      refine gf_X2_18 (pc := 60) dX2_highOf_60 rfl ?_
      refine r_iload_n (pc := 63) dX2_highOf_63 rfl ?_
      refine r_iald (pc := 64) dX2_highOf_64 rfl (show _ < 6 by omega) ?_
      refine r_is (nI f) a3 ?_
      first | with_reducible refine r_iaddN (pc := 65) dX2_highOf_65 ?_ | refine r_iadd (pc := 65) dX2_highOf_65 ?_
      refine r_is (highS S c) (by have h3 := hkk 3 (by omega) h20; rw [hh, hB, if_neg (by omega), if_pos h3]; congr 1; omega) ?_
      exact r_iret (pc := 66) dX2_highOf_66 rfl ⟨rfl, rfl⟩
    · refine r_tableIn (off := 47) (tgt := 67) (pc := 20) dX2_highOf_20 (by decide) (by decide) rfl (by decide) ?_
      refine r_aload_n (pc := 67) dX2_highOf_67 rfl ?_
      refine gf_X2_15 (pc := 68) dX2_highOf_68 rfl ?_
      refine r_iload_n (pc := 71) dX2_highOf_71 rfl ?_
      refine r_iald (pc := 72) dX2_highOf_72 rfl (show _ < 6 by omega) ?_
      refine r_is (highS S c) (by have h3 := hkk 4 (by omega) h20; rw [hh, hB, if_neg (by omega), if_neg (by omega), if_pos h3]; exact a2) ?_
      exact r_iret (pc := 73) dX2_highOf_73 rfl ⟨rfl, rfl⟩
    · refine r_tableIn (off := 54) (tgt := 74) (pc := 20) dX2_highOf_20 (by decide) (by decide) rfl (by decide) ?_
      refine r_aload_n (pc := 74) dX2_highOf_74 rfl ?_
      refine gf_X2_15 (pc := 75) dX2_highOf_75 rfl ?_
      refine r_iload_n (pc := 78) dX2_highOf_78 rfl ?_
      refine r_iald (pc := 79) dX2_highOf_79 rfl (show _ < 6 by omega) ?_
      refine r_is (nI l) a2 ?_
      refine r_if_le (tgt := 94) (pc := 80) dX2_highOf_80 (by decide) (fun h80 => ?_) (fun h80 => ?_)
      · have h3 := hkk 5 (by omega) h20
        have h0 : l = 0 := by have := (nI_leI (a := l) (b := 0) (by omega) (by omega)).mp h80; omega
        refine r_iconst (v := nI 0) (pc := 94) dX2_highOf_94 (by decide) ?_
        exact r_iret (pc := 95) dX2_highOf_95 rfl ⟨by rw [hh, hB, if_neg (by omega), if_neg (by omega), if_neg (by omega), if_pos h3]; first | rw [if_pos h0] | rw [if_neg h0], rfl⟩
      · have h3 := hkk 5 (by omega) h20
        have h0 : l ≠ 0 := fun z => h80 (by rw [z]; decide)
        refine r_aload_n (pc := 83) dX2_highOf_83 rfl ?_
        refine gf_X2_15 (pc := 84) dX2_highOf_84 rfl ?_
        refine r_iload_n (pc := 87) dX2_highOf_87 rfl ?_
        refine r_iald (pc := 88) dX2_highOf_88 rfl (show _ < 6 by omega) ?_
        refine r_is (nI l) a2 ?_
        refine r_iconst (v := nI 5) (pc := 89) dX2_highOf_89 (by decide) ?_
        first | with_reducible refine r_iaddN (pc := 90) dX2_highOf_90 ?_ | refine r_iadd (pc := 90) dX2_highOf_90 ?_
        refine r_goto (tgt := 95) (pc := 91) dX2_highOf_91 (by decide) ?_
        exact r_iret (pc := 95) dX2_highOf_95 rfl ⟨by rw [hh, hB, if_neg (by omega), if_neg (by omega), if_neg (by omega), if_pos h3]; first | rw [if_pos h0] | rw [if_neg h0], rfl⟩
set_option maxHeartbeats 4000000 in
set_option maxRecDepth 100000 in
theorem c_X2_isHigher_28 (l : Launch) (G : Gx) (M : Mem) (a b : Nat) (S : Nat → Int32) (n : Nat) (hm : ms 28 n S M) (hR : Rg n S) (ha : a < n) (hb : b < n) : Con l G yX2_isHigher cX2_isHigher 4 (some .boolean) 1 22 [.ref (gA G 28), .int (nI a), .int (nI b)] M (rI (bI (abv S a b = true)) M) := by
  refine Con.ofV [some (.ref (gA G 28)), some (.int (nI a)), some (.int (nI b)), none] RX2 (by decide) rfl (Nat.le_of_ble_eq_true rfl) rfl ?_
  intro κ hl hG hk0 hn0
  subst hl hG
  have hcs : κ.k ≤ 0 ∧ κ.n ≤ 0 := ⟨Nat.le_of_eq hk0, Nat.le_of_eq hn0⟩
  have hn6 := hR.1
  obtain ⟨x, hx, ex⟩ := (hR.c ha).high
  obtain ⟨y, hy, ey⟩ := (hR.c hb).high
  have hi := abv_iff S a b
  rw [ex, ey, nI_toInt (by omega), nI_toInt (by omega)] at hi
  have hg := gapI hx hy
  refine r_aload_n (pc := 0) dX2_isHigher_0 rfl ?_
  refine r_iload_n (pc := 1) dX2_isHigher_1 rfl ?_
  refine iv_X2_61 (c_X2_highOf_28 _ _ _ a S n hm hR ha) (pc := 2) dX2_isHigher_2 rfl ⟨Nat.le_of_ble_eq_true rfl, Nat.le_of_ble_eq_true rfl⟩ (Nat.le_of_ble_eq_true rfl) hcs (kI ?_)
  refine r_is (nI x) ex ?_
  refine r_aload_n (pc := 5) dX2_isHigher_5 rfl ?_
  refine r_iload_n (pc := 6) dX2_isHigher_6 rfl ?_
  refine iv_X2_61 (c_X2_highOf_28 _ _ _ b S n hm hR hb) (pc := 7) dX2_isHigher_7 rfl ⟨Nat.le_of_ble_eq_true rfl, Nat.le_of_ble_eq_true rfl⟩ (Nat.le_of_ble_eq_true rfl) hcs (kI ?_)
  refine r_is (nI y) ey ?_
  refine r_isub (pc := 10) dX2_isHigher_10 ?_
  refine r_st_n [_, _, _, _] (pc := 11) dX2_isHigher_11 (by decide) rfl rfl ?_
  refine r_iload_n (pc := 12) dX2_isHigher_12 rfl ?_
  refine r_if_gt (tgt := 25) (pc := 13) dX2_isHigher_13 (by decide) (fun h13 => ?_) (fun h13 => ?_)
  · have hp : abv S a b = true := hi.mpr (by rw [fa_lt, hg] at h13; have : (0 : Int32).toInt = 0 := rfl; omega)
    refine r_iconst (v := nI 1) (pc := 25) dX2_isHigher_25 (by decide) ?_
    refine r_goto (tgt := 30) (pc := 26) dX2_isHigher_26 (by decide) ?_
    exact r_zret (pc := 30) dX2_isHigher_30 rfl (by first | rfl | exact bI_narrow) (by first | exact rI_1 hp | exact rI_0 hp)
  · have g13 : ¬ y < x := by rw [fa_lt, hg] at h13; have : (0 : Int32).toInt = 0 := rfl; omega
    refine r_iload_n (pc := 16) dX2_isHigher_16 rfl ?_
    refine r_if_ne (tgt := 29) (pc := 17) dX2_isHigher_17 (by decide) (fun h17 => ?_) (fun h17 => ?_)
    · have hp : ¬ abv S a b = true := fun z => h17 (by rw [fa_eq, hg]; have := hi.mp z; have : (0 : Int32).toInt = 0 := rfl; omega)
      refine r_iconst (v := nI 0) (pc := 29) dX2_isHigher_29 (by decide) ?_
      exact r_zret (pc := 30) dX2_isHigher_30 rfl (by first | rfl | exact bI_narrow) (by first | exact rI_1 hp | exact rI_0 hp)
    · have g17 : x = y := by rw [fa_eq, hg] at h17; have : (0 : Int32).toInt = 0 := rfl; omega
      refine r_iload_n (pc := 20) dX2_isHigher_20 rfl ?_
      refine r_iload_n (pc := 21) dX2_isHigher_21 rfl ?_
      refine r_icmp_ge (tgt := 29) (pc := 22) dX2_isHigher_22 (by decide) (fun h22 => ?_) (fun h22 => ?_)
      · have hp : ¬ abv S a b = true := fun z => by have := hi.mp z; have := (nI_leI (by omega) (by omega)).mp h22; omega
        refine r_iconst (v := nI 0) (pc := 29) dX2_isHigher_29 (by decide) ?_
        exact r_zret (pc := 30) dX2_isHigher_30 rfl (by first | rfl | exact bI_narrow) (by first | exact rI_1 hp | exact rI_0 hp)
      · have hp : abv S a b = true := hi.mpr (Or.inr ⟨by omega, Nat.not_le.mp (fun z => h22 ((nI_leI (by omega) (by omega)).mpr z))⟩)
        refine r_iconst (v := nI 1) (pc := 25) dX2_isHigher_25 (by decide) ?_
        refine r_goto (tgt := 30) (pc := 26) dX2_isHigher_26 (by decide) ?_
        exact r_zret (pc := 30) dX2_isHigher_30 rfl (by first | rfl | exact bI_narrow) (by first | exact rI_1 hp | exact rI_0 hp)
set_option maxHeartbeats 4000000 in
set_option maxRecDepth 100000 in
theorem c_X2_allLegs_28 (l : Launch) (G : Gx) (M : Mem) (S : Nat → Int32) (n : Nat) (hm : ms 28 n S M) (hR : Rg n S) : Con l G yX2_allLegs cX2_allLegs 3 (some .int) 0 0 [.ref (gA G 28)] M (rI (sumN S 11 n) M) := by
  refine Con.ofV [some (.ref (gA G 28)), none, none] RX2 (by decide) rfl (Nat.le_of_ble_eq_true rfl) rfl ?_
  intro κ hl hG hk0 hn0
  subst hl hG
  have hcs : κ.k ≤ 0 ∧ κ.n ≤ 0 := ⟨Nat.le_of_eq hk0, Nat.le_of_eq hn0⟩
  have hn6 := hR.1
  refine r_iconst (v := nI 0) (pc := 0) dX2_allLegs_0 (by decide) ?_
  refine r_st_n [_, _, _] (pc := 1) dX2_allLegs_1 (by decide) rfl rfl ?_
  refine r_iconst (v := nI 0) (pc := 2) dX2_allLegs_2 (by decide) ?_
  refine r_st_n [_, _, _] (pc := 3) dX2_allLegs_3 (by decide) rfl rfl ?_
  refine V.bk (loopV (fun (σ : Nat) => V κ cX2_allLegs RX2 3 (some .int) (rmx 0 0) (QM κ (rI (sumN S 11 n) M)) M 4 [some (.ref (gA κ.G 28)), some (.int (sumN S 11 σ)), some (.int (nI σ))] []) (fun (σ : Nat) => σ ≤ n) (fun (σ : Nat) => n - σ) ?_ 0 (Nat.zero_le _)) rfl (by (repeat (first | exact wk_0 | refine wk_n ?_ | refine wk_s rfl ?_)); done)
  rintro j hj ih
  show V κ cX2_allLegs RX2 3 (some .int) (rmx 0 0) (QM κ (rI (sumN S 11 n) M)) M 4 [some (.ref (gA κ.G 28)), some (.int (sumN S 11 j)), some (.int (nI j))] []
  refine r_iload_n (pc := 4) dX2_allLegs_4 rfl ?_
  refine r_aload_n (pc := 5) dX2_allLegs_5 rfl ?_
  refine gf_X2_39 (pc := 6) dX2_allLegs_6 rfl ?_
  refine r_is (nI n) (hm.1) ?_
  refine r_icmp_ge (tgt := 27) (pc := 9) dX2_allLegs_9 (by decide) (fun h9 => ?_) (fun h9 => ?_)
  · have h9 : n ≤ j := (nI_leI (by omega) (by omega)).mp h9
    obtain rfl : n = j := by omega
    refine r_iload_n (pc := 27) dX2_allLegs_27 rfl ?_
    exact r_iret (pc := 28) dX2_allLegs_28 rfl ⟨rfl, rfl⟩
  · have h9 : j < n := Nat.not_le.mp (fun z => h9 ((nI_leI (by omega) (by omega)).mpr z))
    refine r_iload_n (pc := 12) dX2_allLegs_12 rfl ?_
    refine r_aload_n (pc := 13) dX2_allLegs_13 rfl ?_
    refine gf_X2_15 (pc := 14) dX2_allLegs_14 rfl ?_
    refine r_iload_n (pc := 17) dX2_allLegs_17 rfl ?_
    refine r_iald (pc := 18) dX2_allLegs_18 rfl (show _ < 6 by omega) ?_
    refine r_is (S (11 + j)) (hm.2.2.2.2.2 j (by omega)).2.1 ?_
    first | with_reducible refine r_iaddN (pc := 19) dX2_allLegs_19 ?_ | refine r_iadd (pc := 19) dX2_allLegs_19 ?_
    refine r_st_n [_, _, _] (pc := 20) dX2_allLegs_20 (by decide) rfl rfl ?_
    first | refine r_inc [_, _, _] (pc := 21) dX2_allLegs_21 rfl (nI_inc _) (by decide) rfl rfl ?_ | refine r_inc [_, _, _] (pc := 21) dX2_allLegs_21 rfl rfl (by decide) rfl rfl ?_
    refine r_goto (tgt := 4) (pc := 24) dX2_allLegs_24 (by decide) ?_
    exact V.bk (ih (j + 1) (by omega) (by omega)) rfl (by (repeat (first | exact wk_0 | refine wk_n ?_ | refine wk_s rfl ?_)); done)
set_option maxHeartbeats 4000000 in
set_option maxRecDepth 100000 in
theorem c_X2_allCaught_28 (l : Launch) (G : Gx) (M : Mem) (S : Nat → Int32) (n : Nat) (hm : ms 28 n S M) (hR : Rg n S) : Con l G yX2_allCaught cX2_allCaught 3 (some .int) 0 0 [.ref (gA G 28)] M (rI (sumN S 35 n) M) := by
  refine Con.ofV [some (.ref (gA G 28)), none, none] RX2 (by decide) rfl (Nat.le_of_ble_eq_true rfl) rfl ?_
  intro κ hl hG hk0 hn0
  subst hl hG
  have hcs : κ.k ≤ 0 ∧ κ.n ≤ 0 := ⟨Nat.le_of_eq hk0, Nat.le_of_eq hn0⟩
  have hn6 := hR.1
  refine r_iconst (v := nI 0) (pc := 0) dX2_allCaught_0 (by decide) ?_
  refine r_st_n [_, _, _] (pc := 1) dX2_allCaught_1 (by decide) rfl rfl ?_
  refine r_iconst (v := nI 0) (pc := 2) dX2_allCaught_2 (by decide) ?_
  refine r_st_n [_, _, _] (pc := 3) dX2_allCaught_3 (by decide) rfl rfl ?_
  refine V.bk (loopV (fun (σ : Nat) => V κ cX2_allCaught RX2 3 (some .int) (rmx 0 0) (QM κ (rI (sumN S 35 n) M)) M 4 [some (.ref (gA κ.G 28)), some (.int (sumN S 35 σ)), some (.int (nI σ))] []) (fun (σ : Nat) => σ ≤ n) (fun (σ : Nat) => n - σ) ?_ 0 (Nat.zero_le _)) rfl (by (repeat (first | exact wk_0 | refine wk_n ?_ | refine wk_s rfl ?_)); done)
  rintro j hj ih
  show V κ cX2_allCaught RX2 3 (some .int) (rmx 0 0) (QM κ (rI (sumN S 35 n) M)) M 4 [some (.ref (gA κ.G 28)), some (.int (sumN S 35 j)), some (.int (nI j))] []
  refine r_iload_n (pc := 4) dX2_allCaught_4 rfl ?_
  refine r_aload_n (pc := 5) dX2_allCaught_5 rfl ?_
  refine gf_X2_39 (pc := 6) dX2_allCaught_6 rfl ?_
  refine r_is (nI n) (hm.1) ?_
  refine r_icmp_ge (tgt := 27) (pc := 9) dX2_allCaught_9 (by decide) (fun h9 => ?_) (fun h9 => ?_)
  · have h9 : n ≤ j := (nI_leI (by omega) (by omega)).mp h9
    obtain rfl : n = j := by omega
    refine r_iload_n (pc := 27) dX2_allCaught_27 rfl ?_
    exact r_iret (pc := 28) dX2_allCaught_28 rfl ⟨rfl, rfl⟩
  · have h9 : j < n := Nat.not_le.mp (fun z => h9 ((nI_leI (by omega) (by omega)).mpr z))
    refine r_iload_n (pc := 12) dX2_allCaught_12 rfl ?_
    refine r_aload_n (pc := 13) dX2_allCaught_13 rfl ?_
    refine gf_X2_27 (pc := 14) dX2_allCaught_14 rfl ?_
    refine r_iload_n (pc := 17) dX2_allCaught_17 rfl ?_
    refine r_iald (pc := 18) dX2_allCaught_18 rfl (show _ < 6 by omega) ?_
    refine r_is (S (35 + j)) (hm.2.2.2.2.2 j (by omega)).2.2.2.2.2 ?_
    first | with_reducible refine r_iaddN (pc := 19) dX2_allCaught_19 ?_ | refine r_iadd (pc := 19) dX2_allCaught_19 ?_
    refine r_st_n [_, _, _] (pc := 20) dX2_allCaught_20 (by decide) rfl rfl ?_
    first | refine r_inc [_, _, _] (pc := 21) dX2_allCaught_21 rfl (nI_inc _) (by decide) rfl rfl ?_ | refine r_inc [_, _, _] (pc := 21) dX2_allCaught_21 rfl rfl (by decide) rfl rfl ?_
    refine r_goto (tgt := 4) (pc := 24) dX2_allCaught_24 (by decide) ?_
    exact V.bk (ih (j + 1) (by omega) (by omega)) rfl (by (repeat (first | exact wk_0 | refine wk_n ?_ | refine wk_s rfl ?_)); done)
set_option maxHeartbeats 4000000 in
set_option maxRecDepth 100000 in
theorem c_X2_glueLeg_28 (l : Launch) (G : Gx) (M : Mem) (c : Nat) (S : Nat → Int32) (n : Nat) (hm : ms 28 n S M) (hR : Rg n S) (hc : c < n) : Con l G yX2_glueLeg cX2_glueLeg 2 none 1 60 [.ref (gA G 28), .int (nI c)] M (rV (mset M 30 c (glueV S c))) := by
  refine Con.ofV [some (.ref (gA G 28)), some (.int (nI c))] RX2 (by decide) rfl (Nat.le_of_ble_eq_true rfl) rfl ?_
  intro κ hl hG hk0 hn0
  subst hl hG
  have hcs : κ.k ≤ 0 ∧ κ.n ≤ 0 := ⟨Nat.le_of_eq hk0, Nat.le_of_eq hn0⟩
  have hn6 := hR.1
  refine r_aload_n (pc := 0) dX2_glueLeg_0 rfl ?_
  refine gf_X2_15 (pc := 1) dX2_glueLeg_1 rfl ?_
  refine r_iload_n (pc := 4) dX2_glueLeg_4 rfl ?_
  refine r_bipush (v := nI 60) (pc := 5) dX2_glueLeg_5 (by decide) ?_
  refine r_aload_n (pc := 7) dX2_glueLeg_7 rfl ?_
  refine gf_X2_15 (pc := 8) dX2_glueLeg_8 rfl ?_
  refine r_iload_n (pc := 11) dX2_glueLeg_11 rfl ?_
  refine r_iald (pc := 12) dX2_glueLeg_12 rfl (show _ < 6 by omega) ?_
  refine r_is (S (11 + c)) (hm.2.2.2.2.2 c hc).2.1 ?_
  refine r_aload_n (pc := 13) dX2_glueLeg_13 rfl ?_
  refine gf_X2_52 (pc := 14) dX2_glueLeg_14 rfl ?_
  refine r_is (S 1) (hm.2.2.1) ?_
  first | with_reducible refine r_iaddN (pc := 17) dX2_glueLeg_17 ?_ | refine r_iadd (pc := 17) dX2_glueLeg_17 ?_
  refine r_min (pc := 18) dX2_glueLeg_18 wl_X2_71 w_minS w_MathI w_minC (Nat.le_of_ble_eq_true rfl) (Nat.le_of_ble_eq_true rfl) hcs.1 hcs.2 ?_
  refine r_is (glueV S c) (by unfold glueV; by_cases h : S (11 + c) + S 1 < nI 60; rw [if_pos h, if_pos (fa_of_lt h).1]; rw [if_neg h]; by_cases h2 : S (11 + c) + S 1 ≤ nI 60; rw [if_pos h2]; exact (Int32.le_antisymm h2 (fa_of_nlt h)).symm; rw [if_neg h2]) ?_
  refine r_iast (pc := 21) dX2_glueLeg_21 rfl (show _ < 6 by omega) ?_
  exact r_vret (pc := 22) dX2_glueLeg_22 rfl ⟨rfl, rfl⟩
set_option maxHeartbeats 4000000 in
set_option maxRecDepth 100000 in
theorem c_X2_exchange (l : Launch) (G : Gx) (M : Mem) (e a b : Nat) (he : isIA e = true) (hle : lenA e = 6) (ha : a < 6) (hb : b < 6) : Con l G yX2_exchange cX2_exchange 4 none 0 0 [.ref (gA G e), .int (nI a), .int (nI b)] M (rV (setA M e (exchA (M e) a b))) := by
  refine Con.ofV [some (.ref (gA G e)), some (.int (nI a)), some (.int (nI b)), none] RX2 (by decide) rfl (Nat.le_of_ble_eq_true rfl) rfl ?_
  intro κ hl hG hk0 hn0
  subst hl hG
  have hcs : κ.k ≤ 0 ∧ κ.n ≤ 0 := ⟨Nat.le_of_eq hk0, Nat.le_of_eq hn0⟩
  refine r_aload_n (pc := 0) dX2_exchange_0 rfl ?_
  refine r_iload_n (pc := 1) dX2_exchange_1 rfl ?_
  refine r_iald (pc := 2) dX2_exchange_2 he (by rw [hle]; omega) ?_
  refine r_st_n [_, _, _, _] (pc := 3) dX2_exchange_3 (by decide) rfl rfl ?_
  refine r_aload_n (pc := 4) dX2_exchange_4 rfl ?_
  refine r_iload_n (pc := 5) dX2_exchange_5 rfl ?_
  refine r_aload_n (pc := 6) dX2_exchange_6 rfl ?_
  refine r_iload_n (pc := 7) dX2_exchange_7 rfl ?_
  refine r_iald (pc := 8) dX2_exchange_8 he (by rw [hle]; omega) ?_
  refine r_iast (pc := 9) dX2_exchange_9 he (by rw [hle]; omega) ?_
  refine r_aload_n (pc := 10) dX2_exchange_10 rfl ?_
  refine r_iload_n (pc := 11) dX2_exchange_11 rfl ?_
  refine r_iload_n (pc := 12) dX2_exchange_12 rfl ?_
  refine r_iast (pc := 13) dX2_exchange_13 he (by rw [hle]; omega) ?_
  refine V.mem (show _ = setA M e (exchA (M e) a b) by unfold exchA; rw [mset, mset, setA_eq, setA_setA]) ?_
  exact r_vret (pc := 14) dX2_exchange_14 rfl ⟨rfl, rfl⟩
set_option maxHeartbeats 4000000 in
set_option maxRecDepth 100000 in
theorem c_X2_exchangeSitters_18 (l : Launch) (G : Gx) (M : Mem) (a b : Nat) (ha : a < 6) (hb : b < 6) : Con l G yX2_exchangeSitters cX2_exchangeSitters 3 none 1 23 [.ref (gA G 18), .int (nI a), .int (nI b)] M (rV (setA (setA (setA M 22 (exchA (M 22) a b)) 23 (exchA (M 23) a b)) 24 (exchA (M 24) a b))) := by
  refine Con.ofV [some (.ref (gA G 18)), some (.int (nI a)), some (.int (nI b))] RX2 (by decide) rfl (Nat.le_of_ble_eq_true rfl) rfl ?_
  intro κ hl hG hk0 hn0
  subst hl hG
  have hcs : κ.k ≤ 0 ∧ κ.n ≤ 0 := ⟨Nat.le_of_eq hk0, Nat.le_of_eq hn0⟩
  refine r_aload_n (pc := 0) dX2_exchangeSitters_0 rfl ?_
  refine gf_X2_21 (pc := 1) dX2_exchangeSitters_1 rfl ?_
  refine r_iload_n (pc := 4) dX2_exchangeSitters_4 rfl ?_
  refine r_iload_n (pc := 5) dX2_exchangeSitters_5 rfl ?_
  refine iv_X2_77 (c_X2_exchange _ _ _ _ _ _ rfl rfl (by omega) (by omega)) (pc := 6) dX2_exchangeSitters_6 ⟨Nat.le_of_ble_eq_true rfl, Nat.le_of_ble_eq_true rfl⟩ (Nat.le_of_ble_eq_true rfl) hcs (kV ?_)
  refine r_aload_n (pc := 9) dX2_exchangeSitters_9 rfl ?_
  refine gf_X2_24 (pc := 10) dX2_exchangeSitters_10 rfl ?_
  refine r_iload_n (pc := 13) dX2_exchangeSitters_13 rfl ?_
  refine r_iload_n (pc := 14) dX2_exchangeSitters_14 rfl ?_
  refine iv_X2_77 (c_X2_exchange _ _ _ _ _ _ rfl rfl (by omega) (by omega)) (pc := 15) dX2_exchangeSitters_15 ⟨Nat.le_of_ble_eq_true rfl, Nat.le_of_ble_eq_true rfl⟩ (Nat.le_of_ble_eq_true rfl) hcs (kV ?_)
  refine r_aload_n (pc := 18) dX2_exchangeSitters_18 rfl ?_
  refine gf_X2_27 (pc := 19) dX2_exchangeSitters_19 rfl ?_
  refine r_iload_n (pc := 22) dX2_exchangeSitters_22 rfl ?_
  refine r_iload_n (pc := 23) dX2_exchangeSitters_23 rfl ?_
  refine iv_X2_77 (c_X2_exchange _ _ _ _ _ _ rfl rfl (by omega) (by omega)) (pc := 24) dX2_exchangeSitters_24 ⟨Nat.le_of_ble_eq_true rfl, Nat.le_of_ble_eq_true rfl⟩ (Nat.le_of_ble_eq_true rfl) hcs (kV ?_)
  exact r_vret (pc := 27) dX2_exchangeSitters_27 rfl ⟨rfl, rfl⟩
set_option maxHeartbeats 4000000 in
set_option maxRecDepth 100000 in
theorem c_X2_exchangeSitters_28 (l : Launch) (G : Gx) (M : Mem) (a b : Nat) (ha : a < 6) (hb : b < 6) : Con l G yX2_exchangeSitters cX2_exchangeSitters 3 none 1 23 [.ref (gA G 28), .int (nI a), .int (nI b)] M (rV (setA (setA (setA M 32 (exchA (M 32) a b)) 33 (exchA (M 33) a b)) 34 (exchA (M 34) a b))) := by
  refine Con.ofV [some (.ref (gA G 28)), some (.int (nI a)), some (.int (nI b))] RX2 (by decide) rfl (Nat.le_of_ble_eq_true rfl) rfl ?_
  intro κ hl hG hk0 hn0
  subst hl hG
  have hcs : κ.k ≤ 0 ∧ κ.n ≤ 0 := ⟨Nat.le_of_eq hk0, Nat.le_of_eq hn0⟩
  refine r_aload_n (pc := 0) dX2_exchangeSitters_0 rfl ?_
  refine gf_X2_21 (pc := 1) dX2_exchangeSitters_1 rfl ?_
  refine r_iload_n (pc := 4) dX2_exchangeSitters_4 rfl ?_
  refine r_iload_n (pc := 5) dX2_exchangeSitters_5 rfl ?_
  refine iv_X2_77 (c_X2_exchange _ _ _ _ _ _ rfl rfl (by omega) (by omega)) (pc := 6) dX2_exchangeSitters_6 ⟨Nat.le_of_ble_eq_true rfl, Nat.le_of_ble_eq_true rfl⟩ (Nat.le_of_ble_eq_true rfl) hcs (kV ?_)
  refine r_aload_n (pc := 9) dX2_exchangeSitters_9 rfl ?_
  refine gf_X2_24 (pc := 10) dX2_exchangeSitters_10 rfl ?_
  refine r_iload_n (pc := 13) dX2_exchangeSitters_13 rfl ?_
  refine r_iload_n (pc := 14) dX2_exchangeSitters_14 rfl ?_
  refine iv_X2_77 (c_X2_exchange _ _ _ _ _ _ rfl rfl (by omega) (by omega)) (pc := 15) dX2_exchangeSitters_15 ⟨Nat.le_of_ble_eq_true rfl, Nat.le_of_ble_eq_true rfl⟩ (Nat.le_of_ble_eq_true rfl) hcs (kV ?_)
  refine r_aload_n (pc := 18) dX2_exchangeSitters_18 rfl ?_
  refine gf_X2_27 (pc := 19) dX2_exchangeSitters_19 rfl ?_
  refine r_iload_n (pc := 22) dX2_exchangeSitters_22 rfl ?_
  refine r_iload_n (pc := 23) dX2_exchangeSitters_23 rfl ?_
  refine iv_X2_77 (c_X2_exchange _ _ _ _ _ _ rfl rfl (by omega) (by omega)) (pc := 24) dX2_exchangeSitters_24 ⟨Nat.le_of_ble_eq_true rfl, Nat.le_of_ble_eq_true rfl⟩ (Nat.le_of_ble_eq_true rfl) hcs (kV ?_)
  exact r_vret (pc := 27) dX2_exchangeSitters_27 rfl ⟨rfl, rfl⟩

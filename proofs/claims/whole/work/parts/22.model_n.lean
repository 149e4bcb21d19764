section TL
variable {κ : Kx} {cc : ByteArray} {own : String} {nL : Nat} {ret : Option FieldType} {R : Room} {Q : State → Prop} {M : Mem} {pc : Nat} {f : List (Option Value)} {st : List Value}
theorem t_if_eqL {x : Int32} {a b : Int64} {off : Int} {tgt J : Nat} (hd : decode cc pc = .ok (.ifCond .eq off, 3)) (ht : (pc : Int) + off = (tgt : Int)) (pT : V κ cc own nL ret R Q M J f (.long a :: st) → V κ cc own nL ret R Q M tgt f st) (pF : V κ cc own nL ret R Q M J f (.long b :: st) → V κ cc own nL ret R Q M (pc + 3) f st) (k : V κ cc own nL ret R Q M J f (.long (if x = 0 then a else b) :: st)) : V κ cc own nL ret R Q M pc f (.int x :: st) := r_if_eq hd ht (fun h => pT (by rw [if_pos h] at k; exact k)) (fun h => pF (by rw [if_neg h] at k; exact k))
theorem t_icmp_eqL {x y : Int32} {a b : Int64} {off : Int} {tgt J : Nat} (hd : decode cc pc = .ok (.if_icmp .eq off, 3)) (ht : (pc : Int) + off = (tgt : Int)) (pT : V κ cc own nL ret R Q M J f (.long a :: st) → V κ cc own nL ret R Q M tgt f st) (pF : V κ cc own nL ret R Q M J f (.long b :: st) → V κ cc own nL ret R Q M (pc + 3) f st) (k : V κ cc own nL ret R Q M J f (.long (if x = y then a else b) :: st)) : V κ cc own nL ret R Q M pc f (.int y :: .int x :: st) := r_icmp_eq hd ht (fun h => pT (by rw [if_pos h] at k; exact k)) (fun h => pF (by rw [if_neg h] at k; exact k))
theorem t_if_neL {x : Int32} {a b : Int64} {off : Int} {tgt J : Nat} (hd : decode cc pc = .ok (.ifCond .ne off, 3)) (ht : (pc : Int) + off = (tgt : Int)) (pT : V κ cc own nL ret R Q M J f (.long a :: st) → V κ cc own nL ret R Q M tgt f st) (pF : V κ cc own nL ret R Q M J f (.long b :: st) → V κ cc own nL ret R Q M (pc + 3) f st) (k : V κ cc own nL ret R Q M J f (.long (if x = 0 then b else a) :: st)) : V κ cc own nL ret R Q M pc f (.int x :: st) := r_if_ne hd ht (fun h => pT (by rw [if_neg h] at k; exact k)) (fun h => pF (by rw [if_pos h] at k; exact k))
theorem t_icmp_neL {x y : Int32} {a b : Int64} {off : Int} {tgt J : Nat} (hd : decode cc pc = .ok (.if_icmp .ne off, 3)) (ht : (pc : Int) + off = (tgt : Int)) (pT : V κ cc own nL ret R Q M J f (.long a :: st) → V κ cc own nL ret R Q M tgt f st) (pF : V κ cc own nL ret R Q M J f (.long b :: st) → V κ cc own nL ret R Q M (pc + 3) f st) (k : V κ cc own nL ret R Q M J f (.long (if x = y then b else a) :: st)) : V κ cc own nL ret R Q M pc f (.int y :: .int x :: st) := r_icmp_ne hd ht (fun h => pT (by rw [if_neg h] at k; exact k)) (fun h => pF (by rw [if_pos h] at k; exact k))
theorem t_if_ltL {x : Int32} {a b : Int64} {off : Int} {tgt J : Nat} (hd : decode cc pc = .ok (.ifCond .lt off, 3)) (ht : (pc : Int) + off = (tgt : Int)) (pT : V κ cc own nL ret R Q M J f (.long a :: st) → V κ cc own nL ret R Q M tgt f st) (pF : V κ cc own nL ret R Q M J f (.long b :: st) → V κ cc own nL ret R Q M (pc + 3) f st) (k : V κ cc own nL ret R Q M J f (.long (if x < 0 then a else b) :: st)) : V κ cc own nL ret R Q M pc f (.int x :: st) := r_if_lt hd ht (fun h => pT (by rw [if_pos h] at k; exact k)) (fun h => pF (by rw [if_neg h] at k; exact k))
theorem t_icmp_ltL {x y : Int32} {a b : Int64} {off : Int} {tgt J : Nat} (hd : decode cc pc = .ok (.if_icmp .lt off, 3)) (ht : (pc : Int) + off = (tgt : Int)) (pT : V κ cc own nL ret R Q M J f (.long a :: st) → V κ cc own nL ret R Q M tgt f st) (pF : V κ cc own nL ret R Q M J f (.long b :: st) → V κ cc own nL ret R Q M (pc + 3) f st) (k : V κ cc own nL ret R Q M J f (.long (if x < y then a else b) :: st)) : V κ cc own nL ret R Q M pc f (.int y :: .int x :: st) := r_icmp_lt hd ht (fun h => pT (by rw [if_pos h] at k; exact k)) (fun h => pF (by rw [if_neg h] at k; exact k))
theorem t_if_geL {x : Int32} {a b : Int64} {off : Int} {tgt J : Nat} (hd : decode cc pc = .ok (.ifCond .ge off, 3)) (ht : (pc : Int) + off = (tgt : Int)) (pT : V κ cc own nL ret R Q M J f (.long a :: st) → V κ cc own nL ret R Q M tgt f st) (pF : V κ cc own nL ret R Q M J f (.long b :: st) → V κ cc own nL ret R Q M (pc + 3) f st) (k : V κ cc own nL ret R Q M J f (.long (if 0 ≤ x then a else b) :: st)) : V κ cc own nL ret R Q M pc f (.int x :: st) := r_if_ge hd ht (fun h => pT (by rw [if_pos h] at k; exact k)) (fun h => pF (by rw [if_neg h] at k; exact k))
theorem t_icmp_geL {x y : Int32} {a b : Int64} {off : Int} {tgt J : Nat} (hd : decode cc pc = .ok (.if_icmp .ge off, 3)) (ht : (pc : Int) + off = (tgt : Int)) (pT : V κ cc own nL ret R Q M J f (.long a :: st) → V κ cc own nL ret R Q M tgt f st) (pF : V κ cc own nL ret R Q M J f (.long b :: st) → V κ cc own nL ret R Q M (pc + 3) f st) (k : V κ cc own nL ret R Q M J f (.long (if y ≤ x then a else b) :: st)) : V κ cc own nL ret R Q M pc f (.int y :: .int x :: st) := r_icmp_ge hd ht (fun h => pT (by rw [if_pos h] at k; exact k)) (fun h => pF (by rw [if_neg h] at k; exact k))
theorem t_if_gtL {x : Int32} {a b : Int64} {off : Int} {tgt J : Nat} (hd : decode cc pc = .ok (.ifCond .gt off, 3)) (ht : (pc : Int) + off = (tgt : Int)) (pT : V κ cc own nL ret R Q M J f (.long a :: st) → V κ cc own nL ret R Q M tgt f st) (pF : V κ cc own nL ret R Q M J f (.long b :: st) → V κ cc own nL ret R Q M (pc + 3) f st) (k : V κ cc own nL ret R Q M J f (.long (if 0 < x then a else b) :: st)) : V κ cc own nL ret R Q M pc f (.int x :: st) := r_if_gt hd ht (fun h => pT (by rw [if_pos h] at k; exact k)) (fun h => pF (by rw [if_neg h] at k; exact k))
theorem t_icmp_gtL {x y : Int32} {a b : Int64} {off : Int} {tgt J : Nat} (hd : decode cc pc = .ok (.if_icmp .gt off, 3)) (ht : (pc : Int) + off = (tgt : Int)) (pT : V κ cc own nL ret R Q M J f (.long a :: st) → V κ cc own nL ret R Q M tgt f st) (pF : V κ cc own nL ret R Q M J f (.long b :: st) → V κ cc own nL ret R Q M (pc + 3) f st) (k : V κ cc own nL ret R Q M J f (.long (if y < x then a else b) :: st)) : V κ cc own nL ret R Q M pc f (.int y :: .int x :: st) := r_icmp_gt hd ht (fun h => pT (by rw [if_pos h] at k; exact k)) (fun h => pF (by rw [if_neg h] at k; exact k))
theorem t_if_leL {x : Int32} {a b : Int64} {off : Int} {tgt J : Nat} (hd : decode cc pc = .ok (.ifCond .le off, 3)) (ht : (pc : Int) + off = (tgt : Int)) (pT : V κ cc own nL ret R Q M J f (.long a :: st) → V κ cc own nL ret R Q M tgt f st) (pF : V κ cc own nL ret R Q M J f (.long b :: st) → V κ cc own nL ret R Q M (pc + 3) f st) (k : V κ cc own nL ret R Q M J f (.long (if x ≤ 0 then a else b) :: st)) : V κ cc own nL ret R Q M pc f (.int x :: st) := r_if_le hd ht (fun h => pT (by rw [if_pos h] at k; exact k)) (fun h => pF (by rw [if_neg h] at k; exact k))
theorem t_icmp_leL {x y : Int32} {a b : Int64} {off : Int} {tgt J : Nat} (hd : decode cc pc = .ok (.if_icmp .le off, 3)) (ht : (pc : Int) + off = (tgt : Int)) (pT : V κ cc own nL ret R Q M J f (.long a :: st) → V κ cc own nL ret R Q M tgt f st) (pF : V κ cc own nL ret R Q M J f (.long b :: st) → V κ cc own nL ret R Q M (pc + 3) f st) (k : V κ cc own nL ret R Q M J f (.long (if x ≤ y then a else b) :: st)) : V κ cc own nL ret R Q M pc f (.int y :: .int x :: st) := r_icmp_le hd ht (fun h => pT (by rw [if_pos h] at k; exact k)) (fun h => pF (by rw [if_neg h] at k; exact k))

theorem r_isL {x : Int64} (y : Int64) (h : x = y) (k : V κ cc own nL ret R Q M pc f (.long y :: st)) : V κ cc own nL ret R Q M pc f (.long x :: st) := by subst h; exact k
end TL
def drV (q : Nat) : Nat → Nat
  | 0 => q
  | k + 1 => drV q k * 16807 % 2147483647
theorem drV_lt (q : Nat) (h : q < 2147483647) : ∀ k, drV q k < 2147483647
  | 0 => h
  | k + 1 => Nat.mod_lt _ (by omega)
def drG (S : Nat → Int32) (c : Nat) (g : Bool) : Nat → Int32 := if g = true then upd (upd S 4 (nI 1 <<< (nI c &&& 31))) (11 + c) (glueV (upd S 4 (nI 1 <<< (nI c &&& 31))) c) else upd S 4 (nI 1 <<< (nI c &&& 31))
def drS (S : Nat → Int32) (n q : Nat) : Nat → Nat → Int32
  | 0 => S
  | k + 1 => nightP (drG (drS S n q k) (drV q (k + 1) % n) (decide (drV q (k + 1) % 5 = 0))) n
theorem drG_2 (S : Nat → Int32) (c : Nat) (g : Bool) : drG S c g 2 = S 2 := by
  unfold drG
  split
  · rw [pk_un (by omega), pk_un (by omega)]
  · rw [pk_un (by omega)]
theorem drS_2 (S : Nat → Int32) (n q : Nat) : ∀ k, drS S n q k 2 = S 2
  | 0 => rfl
  | k + 1 => (nightP_2 _ _).trans ((drG_2 _ _ _).trans (drS_2 S n q k))
theorem lN_m (v : Nat) (h : v < 2147483647) : lN v * (nI 16807).toInt64 - lN v * (nI 16807).toInt64 / (nI 2147483647).toInt64 * (nI 2147483647).toInt64 = lN (v * 16807 % 2147483647) := by
  rw [nI_l (n := 16807) (by omega), nI_l (n := 2147483647) (by omega), lN_mul, pk_lRem (by omega) (by omega) (by omega)]
theorem lN_r {v n : Nat} (h : v < 2147483647) (h0 : 0 < n) (hn : n < 2 ^ 31) : lN v - lN v / (nI n).toInt64 * (nI n).toInt64 = lN (v % n) := by
  rw [nI_l hn, pk_lRem (by omega) h0 (by omega)]
theorem lz_ne {n : Nat} (h0 : 0 < n) (h : n < 2 ^ 31) : ¬ (nI n).toInt64 = 0 := by
  rw [nI_l h]
  intro z
  have := (fb_lN_inj (a := n) (b := 0) (by omega) (by omega)).mp z
  omega
/-- weights -/
def blN (w : Int32) : Nat → Nat
  | 0 => 1
  | c + 1 => blN w c * (if hasB w (nI c) then 10 else 1)
def ptN (w g : Int32) (p : Nat) : Nat → Nat
  | 0 => 1
  | c + 1 => ptN w g p c * (if hasB w (nI c) then (if hasB g (nI c) then p else 10 - p) else 1)
theorem blN_le (w : Int32) : ∀ c, 1 ≤ blN w c ∧ blN w c ≤ 10 ^ c
  | 0 => ⟨Nat.le_refl _, Nat.le_refl _⟩
  | c + 1 => by
    have h := blN_le w c
    have e : (10 : Nat) ^ (c + 1) = 10 ^ c * 10 := Nat.pow_succ _ _
    unfold blN
    split <;> omega
theorem ptN_le (w g : Int32) {p : Nat} (hp : p ≤ 10) : ∀ c, ptN w g p c ≤ 10 ^ c
  | 0 => Nat.le_refl _
  | c + 1 => by
    have h := ptN_le w g hp c
    have e : (10 : Nat) ^ (c + 1) = 10 ^ c * 10 := Nat.pow_succ _ _
    unfold ptN
    rw [e]
    apply Nat.mul_le_mul h
    split
    · split <;> omega
    · omega
theorem ten_le : ∀ n : Nat, n ≤ 6 → 10 ^ n ≤ 1000000 := by decide
/-- the sum of the weights of those asleep sets below g with rank at most q -/
def abN (w : Int32) (pt0 : Nat → Nat) (bad : Nat → Bool) : Nat → Nat
  | 0 => 0
  | g + 1 => if nI g &&& (w ^^^ -1) = 0 then abN w pt0 bad g + (if bad g = true then 0 else pt0 g) else abN w pt0 bad g
theorem abN_le (w : Int32) (pt0 : Nat → Nat) (bad : Nat → Bool) (h : ∀ g, pt0 g ≤ 1000000) : ∀ g, abN w pt0 bad g ≤ 1000000 * g
  | 0 => Nat.le_refl _
  | g + 1 => by
    have h1 := abN_le w pt0 bad h g
    have h2 := h g
    unfold abN
    split
    · split <;> omega
    · omega
theorem lN_0 : (nI 0).toInt64 = lN 0 := rfl
theorem lN_10 : (nI 1).toInt64 = lN 1 := rfl
set_option maxHeartbeats 4000000 in
set_option maxRecDepth 100000 in
theorem c_X6_drawn (l : Launch) (G : Gx) (M : Mem) (x y z : Int32) (n : Nat) (hn : M 4 2 = nI n) (hn6 : n ≤ 6) (ht : M 0 4 = 0 ↔ n = 0) : Con l G yX6_drawn cX6_drawn 8 (some .int) 6 134 [.ref (gA G 0), .int x, .int y, .int z] M (fun v M' => (n = 0 ∧ rI cState M v M') ∨ (0 < n ∧ ¬ (rgG 0 60 x ∧ rgG 1 999999 y ∧ rgG 0 1 z) ∧ rI cBad M v M') ∨ (0 < n ∧ ∃ m q p, m ≤ 60 ∧ 1 ≤ q ∧ q ≤ 999999 ∧ p ≤ 1 ∧ x = nI m ∧ y = nI q ∧ z = nI p ∧ qI (if p = 0 then atN (drS (M 4) n q m) n (nI 0) n else sumN (drS (M 4) n q m) 11 n) (qm M) v M')) := by
  refine Con.ofV [some (.ref (gA G 0)), some (.int x), some (.int y), some (.int z), none, none, none, none] RX6 (by decide) rfl (Nat.le_of_ble_eq_true rfl) rfl ?_
  intro κ hl hG hk0 hn0
  subst hl hG
  have hcs : κ.k ≤ 0 ∧ κ.n ≤ 0 := ⟨Nat.le_of_eq hk0, Nat.le_of_eq hn0⟩
  generalize hPP : (fun v M' => (n = 0 ∧ rI cState M v M') ∨ (0 < n ∧ ¬ (rgG 0 60 x ∧ rgG 1 999999 y ∧ rgG 0 1 z) ∧ rI cBad M v M') ∨ (0 < n ∧ ∃ m q p, m ≤ 60 ∧ 1 ≤ q ∧ q ≤ 999999 ∧ p ≤ 1 ∧ x = nI m ∧ y = nI q ∧ z = nI p ∧ qI (if p = 0 then atN (drS (M 4) n q m) n (nI 0) n else sumN (drS (M 4) n q m) 11 n) (qm M) v M')) = PP
  refine r_aload_n (pc := 0) dX6_drawn_0 rfl ?_
  refine gf_X6_135 (pc := 1) dX6_drawn_1 rfl ?_
  refine r_if_ne (tgt := 10) (pc := 4) dX6_drawn_4 (by decide) (fun h4 => ?_) (fun h4 => ?_)
  · have hn1 : 0 < n := Nat.pos_of_ne_zero (fun z => h4 (ht.mpr z))
    refine r_iload_n (pc := 10) dX6_drawn_10 rfl ?_
    refine r_i2l (pc := 11) dX6_drawn_11 ?_
    refine r_lconst (v := (nI 0).toInt64) (pc := 12) dX6_drawn_12 (by decide) ?_
    refine r_ldc2 (pc := 13) dX6_drawn_13 lk_X6_202 ?_
    refine iv_X6_57 (c_X6_inI _ _ _ _ _ _) (pc := 16) dX6_drawn_16 ⟨Nat.le_of_ble_eq_true rfl, Nat.le_of_ble_eq_true rfl⟩ (Nat.le_of_ble_eq_true rfl) hcs (kI ?_)
    refine r_ifeq_b (tgt := 41) (pc := 19) dX6_drawn_19 (by decide) (fun h19 => ?_) (fun h19 => ?_)
    · have g19 : ¬ rgG 0 60 x := fun z => h19 (rg_mpr z (by omega))
      refine r_ldc (pc := 41) dX6_drawn_41 lk_X6_67 ?_
      exact r_iret (pc := 43) dX6_drawn_43 rfl (by subst hPP; exact (Or.inr (Or.inl ⟨hn1, by first | exact fun z => g19 z.1 | exact fun z => g31 z.2.1 | exact fun z => g38 z.2.2, rfl, rfl⟩)))
    · obtain ⟨m, hma, hmb, rfl⟩ := rg_mp (a := 0) (b := 60) h19 (by omega) (by omega)
      refine r_iload_n (pc := 22) dX6_drawn_22 rfl ?_
      refine r_i2l (pc := 23) dX6_drawn_23 ?_
      refine r_lconst (v := (nI 1).toInt64) (pc := 24) dX6_drawn_24 (by decide) ?_
      refine r_ldc2 (pc := 25) dX6_drawn_25 lk_X6_239 ?_
      refine iv_X6_57 (c_X6_inI _ _ _ _ _ _) (pc := 28) dX6_drawn_28 ⟨Nat.le_of_ble_eq_true rfl, Nat.le_of_ble_eq_true rfl⟩ (Nat.le_of_ble_eq_true rfl) hcs (kI ?_)
      refine r_ifeq_b (tgt := 41) (pc := 31) dX6_drawn_31 (by decide) (fun h31 => ?_) (fun h31 => ?_)
      · have g31 : ¬ rgG 1 999999 y := fun z => h31 (rg_mpr z (by omega))
        refine r_ldc (pc := 41) dX6_drawn_41 lk_X6_67 ?_
        exact r_iret (pc := 43) dX6_drawn_43 rfl (by subst hPP; exact (Or.inr (Or.inl ⟨hn1, by first | exact fun z => g19 z.1 | exact fun z => g31 z.2.1 | exact fun z => g38 z.2.2, rfl, rfl⟩)))
      · obtain ⟨q, hqa, hqb, rfl⟩ := rg_mp (a := 1) (b := 999999) h31 (by omega) (by omega)
        refine r_iload_n (pc := 34) dX6_drawn_34 rfl ?_
        refine iv_X6_217 (c_X6_isWhat _ _ _ _) (pc := 35) dX6_drawn_35 ⟨Nat.le_of_ble_eq_true rfl, Nat.le_of_ble_eq_true rfl⟩ (Nat.le_of_ble_eq_true rfl) hcs (kI ?_)
        refine r_ifne_b (tgt := 44) (pc := 38) dX6_drawn_38 (by decide) (fun h38 => ?_) (fun h38 => ?_)
        · obtain ⟨p, hpa, hpb, rfl⟩ := rg_mp (a := 0) (b := 1) h38 (by omega) (by omega)
          refine r_aload_n (pc := 44) dX6_drawn_44 rfl ?_
          refine iv_X6_204 (d_X6_putAside _ _ _) (pc := 45) dX6_drawn_45 rfl ⟨Nat.le_of_ble_eq_true rfl, Nat.le_of_ble_eq_true rfl⟩ (Nat.le_of_ble_eq_true rfl) hcs (kqV (fun N45 r45 => ?_))
          refine r_iload_n (pc := 48) dX6_drawn_48 rfl ?_
          refine r_i2l (pc := 49) dX6_drawn_49 ?_
          refine r_isL (lN q) (nI_l (by omega)) ?_
          refine r_lst [_, _, _, _, _, _, _, _] (pc := 50) dX6_drawn_50 (by decide) rfl rfl ?_
          refine r_iconst (v := nI 0) (pc := 52) dX6_drawn_52 (by decide) ?_
          refine r_st [_, _, _, _, _, _, _, _] (pc := 53) dX6_drawn_53 (by decide) rfl rfl ?_
          refine V.bk (loopV (fun (σ : Nat × Mem) => V κ cX6_drawn RX6 8 (some .int) (rmx 6 134) (QM κ PP) (σ.2) 55 [some (.ref (gA κ.G 0)), some (.int (nI m)), some (.int (nI q)), some (.int (nI p)), some (.long (lN (drV q (σ.1)))), none, some (.int (nI (σ.1))), none] []) (fun (σ : Nat × Mem) => (σ.1) ≤ m ∧ rs M (drS (M 4) n q (σ.1)) (σ.2)) (fun (σ : Nat × Mem) => m - (σ.1)) ?_ (0, N45) ⟨Nat.zero_le _, r45⟩) rfl (by (repeat (first | exact wk_0 | refine wk_n ?_ | refine wk_s rfl ?_)); done)
          rintro ⟨j, N⟩ hI0 ih
          dsimp only at hI0 ih
          obtain ⟨hj, hN⟩ := hI0
          show V κ cX6_drawn RX6 8 (some .int) (rmx 6 134) (QM κ PP) N 55 [some (.ref (gA κ.G 0)), some (.int (nI m)), some (.int (nI q)), some (.int (nI p)), some (.long (lN (drV q j))), none, some (.int (nI j)), none] []
          refine r_iload (pc := 55) dX6_drawn_55 rfl ?_
          refine r_iload_n (pc := 57) dX6_drawn_57 rfl ?_
          refine r_icmp_ge (tgt := 123) (pc := 58) dX6_drawn_58 (by decide) (fun h58 => ?_) (fun h58 => ?_)
          · have h58 : m ≤ j := (nI_leI (by omega) (by omega)).mp h58
            obtain rfl : m = j := by omega
            refine r_iload_n (pc := 123) dX6_drawn_123 rfl ?_
            refine r_if_ne (tgt := 135) (pc := 124) dX6_drawn_124 (by decide) (fun h124 => ?_) (fun h124 => ?_)
            · have h124 : p ≠ 0 := fun z => h124 (by rw [z]; rfl)
              refine r_aload_n (pc := 135) dX6_drawn_135 rfl ?_
              refine r_bipush (v := nI 11) (pc := 136) dX6_drawn_136 (by decide) ?_
              refine iv_X6_209 (c_X6_sumOf _ _ _ _ n (by omega) (hN.n2 ((drS_2 (M 4) n q m).trans hn)) hn6) (pc := 138) dX6_drawn_138 rfl ⟨Nat.le_of_ble_eq_true rfl, Nat.le_of_ble_eq_true rfl⟩ (Nat.le_of_ble_eq_true rfl) hcs (kI ?_)
              try refine r_is (if p = 0 then atN (drS (M 4) n q m) n (nI 0) n else sumN (drS (M 4) n q m) 11 n) (by rw [if_neg h124, hN.1]) ?_
              refine r_st [_, _, _, _, _, _, _, _] (pc := 141) dX6_drawn_141 (by decide) rfl rfl ?_
              refine r_aload_n (pc := 143) dX6_drawn_143 rfl ?_
              refine iv_X6_199 (d_X6_takeBack _ _ M _ _ hN) (pc := 144) dX6_drawn_144 rfl ⟨Nat.le_of_ble_eq_true rfl, Nat.le_of_ble_eq_true rfl⟩ (Nat.le_of_ble_eq_true rfl) hcs (kqV (fun N144 r144 => ?_))
              refine r_iload (pc := 147) dX6_drawn_147 rfl ?_
              exact r_iret (pc := 149) dX6_drawn_149 rfl (by subst hPP; exact (Or.inr (Or.inr ⟨hn1, m, q, p, hmb, hqa, hqb, hpb, rfl, rfl, rfl, rfl, r144.qm⟩)))
            · have h124 : p = 0 := (nI_eq (by omega) (by omega)).mp (h124.trans nI_0.symm)
              refine r_aload_n (pc := 127) dX6_drawn_127 rfl ?_
              refine r_iconst (v := nI 0) (pc := 128) dX6_drawn_128 (by decide) ?_
              refine iv_X6_153 (c_X6_atRank _ _ _ _ n (hN.n2 ((drS_2 (M 4) n q m).trans hn)) hn6) (pc := 129) dX6_drawn_129 rfl ⟨Nat.le_of_ble_eq_true rfl, Nat.le_of_ble_eq_true rfl⟩ (Nat.le_of_ble_eq_true rfl) hcs (kI ?_)
              refine r_is (if p = 0 then atN (drS (M 4) n q m) n (nI 0) n else sumN (drS (M 4) n q m) 11 n) (by rw [if_pos h124, hN.1]) ?_
              refine r_goto (tgt := 141) (pc := 132) dX6_drawn_132 (by decide) ?_
              try refine r_is (if p = 0 then atN (drS (M 4) n q m) n (nI 0) n else sumN (drS (M 4) n q m) 11 n) (by rw [if_neg h124, hN.1]) ?_
              refine r_st [_, _, _, _, _, _, _, _] (pc := 141) dX6_drawn_141 (by decide) rfl rfl ?_
              refine r_aload_n (pc := 143) dX6_drawn_143 rfl ?_
              refine iv_X6_199 (d_X6_takeBack _ _ M _ _ hN) (pc := 144) dX6_drawn_144 rfl ⟨Nat.le_of_ble_eq_true rfl, Nat.le_of_ble_eq_true rfl⟩ (Nat.le_of_ble_eq_true rfl) hcs (kqV (fun N144 r144 => ?_))
              refine r_iload (pc := 147) dX6_drawn_147 rfl ?_
              exact r_iret (pc := 149) dX6_drawn_149 rfl (by subst hPP; exact (Or.inr (Or.inr ⟨hn1, m, q, p, hmb, hqa, hqb, hpb, rfl, rfl, rfl, rfl, r144.qm⟩)))
          · have h58 : j < m := Nat.not_le.mp (fun z => h58 ((nI_leI (by omega) (by omega)).mpr z))
            refine r_lload (pc := 61) dX6_drawn_61 rfl ?_
            refine r_ldc2 (pc := 63) dX6_drawn_63 lk_X6_241 ?_
            refine r_lmul (pc := 66) dX6_drawn_66 ?_
            refine r_ldc2 (pc := 67) dX6_drawn_67 lk_X6_243 ?_
            refine r_lrem (pc := 70) dX6_drawn_70 (by decide) ?_
            refine r_isL (lN (drV q (j + 1))) (lN_m _ (drV_lt q (by omega) j)) ?_
            have hv := drV_lt q (by omega) (j + 1)
            refine r_lst [_, _, _, _, _, _, _, _] (pc := 71) dX6_drawn_71 (by decide) rfl rfl ?_
            refine r_lload (pc := 73) dX6_drawn_73 rfl ?_
            refine r_aload_n (pc := 75) dX6_drawn_75 rfl ?_
            refine gf_X6_19 (pc := 76) dX6_drawn_76 rfl ?_
            refine r_iconst (v := nI 2) (pc := 79) dX6_drawn_79 (by decide) ?_
            refine r_iald (pc := 80) dX6_drawn_80 rfl (show _ < 41 by omega) ?_
            refine r_is (nI n) (hN.n2 ((drS_2 (M 4) n q j).trans hn)) ?_
            refine r_i2l (pc := 81) dX6_drawn_81 ?_
            refine r_lrem (pc := 82) dX6_drawn_82 (by (exact lz_ne hn1 (by omega))) ?_
            refine r_isL (lN (drV q (j + 1) % n)) (lN_r hv hn1 (by omega)) ?_
            refine r_l2i (pc := 83) dX6_drawn_83 ?_
            refine r_is (nI (drV q (j + 1) % n)) (lN_i _) ?_
            have hc := Nat.mod_lt (drV q (j + 1)) hn1
            refine r_st [_, _, _, _, _, _, _, _] (pc := 84) dX6_drawn_84 (by decide) rfl rfl ?_
            refine r_aload_n (pc := 86) dX6_drawn_86 rfl ?_
            refine gf_X6_19 (pc := 87) dX6_drawn_87 rfl ?_
            refine r_iconst (v := nI 4) (pc := 90) dX6_drawn_90 (by decide) ?_
            refine r_iconst (v := nI 1) (pc := 91) dX6_drawn_91 (by decide) ?_
            refine r_iload (pc := 92) dX6_drawn_92 rfl ?_
            refine r_ishl (pc := 94) dX6_drawn_94 ?_
            refine r_iast (pc := 95) dX6_drawn_95 rfl (show _ < 41 by omega) ?_
            refine r_lload (pc := 96) dX6_drawn_96 rfl ?_
            refine r_ldc2 (pc := 98) dX6_drawn_98 lk_X6_207 ?_
            refine r_lrem (pc := 101) dX6_drawn_101 (by decide) ?_
            refine r_isL (lN (drV q (j + 1) % 5)) (lN_r hv (by omega) (by omega)) ?_
            refine r_lconst (v := (nI 0).toInt64) (pc := 102) dX6_drawn_102 (by decide) ?_
            refine r_lcmp (pc := 103) dX6_drawn_103 ?_
            refine r_if_ne (tgt := 113) (pc := 104) dX6_drawn_104 (by decide) (fun h104 => ?_) (fun h104 => ?_)
            · have hg : (decide (drV q (j + 1) % 5 = 0)) = false := decide_eq_false (fun z => h104 ((lg_cmp_eq _ _).mpr (by rw [z]; rfl)))
              have hNx : rs M (drG (drS (M 4) n q j) (drV q (j + 1) % n) (decide (drV q (j + 1) % 5 = 0))) (mset N 4 4 (nI 1 <<< (nI (drV q (j + 1) % n) &&& 31))) := by rw [hg]; exact hN.put (by omega) _
              first
                | have hNy := hNx
                | have hNy : rs M (drG (drS (M 4) n q j) (drV q (j + 1) % n) (decide (drV q (j + 1) % 5 = 0))) (mset (mset N 4 4 (nI 1 <<< (nI (drV q (j + 1) % n) &&& 31))) 4 (11 + drV q (j + 1) % n) (glueV (mset N 4 4 (nI 1 <<< (nI (drV q (j + 1) % n) &&& 31)) 4) (drV q (j + 1) % n))) := (by rw [hg, mset_eq, hN.1]; exact (hN.put (i := 4) (by omega) _).put (by omega) _)
              refine r_aload_n (pc := 113) dX6_drawn_113 rfl ?_
              refine iv_X6_175 (d_X6_oneNight _ _ M _ _ n hNy ((drG_2 _ _ _).trans ((drS_2 (M 4) n q j).trans hn)) hn6 hn1) (pc := 114) dX6_drawn_114 rfl ⟨Nat.le_of_ble_eq_true rfl, Nat.le_of_ble_eq_true rfl⟩ (Nat.le_of_ble_eq_true rfl) hcs (kqV (fun N114 r114 => ?_))
              first | refine r_inc [_, _, _, _, _, _, _, _] (pc := 117) dX6_drawn_117 rfl (nI_inc _) (by decide) rfl rfl ?_ | refine r_inc [_, _, _, _, _, _, _, _] (pc := 117) dX6_drawn_117 rfl rfl (by decide) rfl rfl ?_
              refine r_goto (tgt := 55) (pc := 120) dX6_drawn_120 (by decide) ?_
              exact V.bk (ih (j + 1, N114) ⟨by omega, r114⟩ (by omega)) rfl (by (repeat (first | exact wk_0 | refine wk_n ?_ | refine wk_s rfl ?_)); done)
            · have hg : (decide (drV q (j + 1) % 5 = 0)) = true := decide_eq_true ((fb_lN_inj (by omega) (by omega)).mp ((lg_cmp_eq _ _).mp h104))
              refine r_aload_n (pc := 107) dX6_drawn_107 rfl ?_
              refine r_iload (pc := 108) dX6_drawn_108 rfl ?_
              refine iv_X6_183 (c_X6_glue _ _ _ _ (by omega)) (pc := 110) dX6_drawn_110 rfl ⟨Nat.le_of_ble_eq_true rfl, Nat.le_of_ble_eq_true rfl⟩ (Nat.le_of_ble_eq_true rfl) hcs (kV ?_)
              first
                | have hNy := hNx
                | have hNy : rs M (drG (drS (M 4) n q j) (drV q (j + 1) % n) (decide (drV q (j + 1) % 5 = 0))) (mset (mset N 4 4 (nI 1 <<< (nI (drV q (j + 1) % n) &&& 31))) 4 (11 + drV q (j + 1) % n) (glueV (mset N 4 4 (nI 1 <<< (nI (drV q (j + 1) % n) &&& 31)) 4) (drV q (j + 1) % n))) := (by rw [hg, mset_eq, hN.1]; exact (hN.put (i := 4) (by omega) _).put (by omega) _)
              refine r_aload_n (pc := 113) dX6_drawn_113 rfl ?_
              refine iv_X6_175 (d_X6_oneNight _ _ M _ _ n hNy ((drG_2 _ _ _).trans ((drS_2 (M 4) n q j).trans hn)) hn6 hn1) (pc := 114) dX6_drawn_114 rfl ⟨Nat.le_of_ble_eq_true rfl, Nat.le_of_ble_eq_true rfl⟩ (Nat.le_of_ble_eq_true rfl) hcs (kqV (fun N114 r114 => ?_))
              first | refine r_inc [_, _, _, _, _, _, _, _] (pc := 117) dX6_drawn_117 rfl (nI_inc _) (by decide) rfl rfl ?_ | refine r_inc [_, _, _, _, _, _, _, _] (pc := 117) dX6_drawn_117 rfl rfl (by decide) rfl rfl ?_
              refine r_goto (tgt := 55) (pc := 120) dX6_drawn_120 (by decide) ?_
              exact V.bk (ih (j + 1, N114) ⟨by omega, r114⟩ (by omega)) rfl (by (repeat (first | exact wk_0 | refine wk_n ?_ | refine wk_s rfl ?_)); done)
        · have g38 : ¬ rgG 0 1 z := fun z => h38 (rg_mpr z (by omega))
          refine r_ldc (pc := 41) dX6_drawn_41 lk_X6_67 ?_
          exact r_iret (pc := 43) dX6_drawn_43 rfl (by subst hPP; exact (Or.inr (Or.inl ⟨hn1, by first | exact fun z => g19 z.1 | exact fun z => g31 z.2.1 | exact fun z => g38 z.2.2, rfl, rfl⟩)))
  · have g4 : n = 0 := ht.mp h4
    refine r_ldc (pc := 7) dX6_drawn_7 lk_X6_169 ?_
    exact r_iret (pc := 9) dX6_drawn_9 rfl (by subst hPP; exact (Or.inl ⟨g4, rfl, rfl⟩))

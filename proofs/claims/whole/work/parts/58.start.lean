theorem pl_61 : ∀ j : Nat, j < 24 → plk (61 + j) = 28 + j := by decide +kernel
set_option maxRecDepth 100000 in
set_option maxHeartbeats 4000000 in
theorem end_world (D : va_G) (cI cZ cR cM : ClassId) (h aS aB aK : Nat) (F : Nat → va_E) {H : Heap} (hP : va_P D vwCl (Wn h 87 (F87 (mkG D cI cZ cR cM h aS aB aK) h F)) H) : va_P D vwCl (Wd (mkG D cI cZ cR cM h aS aB aK) M0) H := by
  intro i q hq
  obtain ⟨hi, rfl⟩ := Wd_mem hq
  have e := hP (plk i) _ (Wn_at _ (inv_pos i hi).1)
  rcases (show i = 0 ∨ i = 1 ∨ i = 2 ∨ i = 3 ∨ i = 4 ∨ i = 5 ∨ i = 6 ∨ i = 7 ∨ i = 8 ∨ i = 9 ∨ i = 10 ∨ i = 11 ∨ i = 12 ∨ i = 13 ∨ i = 14 ∨ i = 15 ∨ i = 16 ∨ i = 17 ∨ i = 18 ∨ i = 19 ∨ i = 20 ∨ i = 21 ∨ i = 22 ∨ i = 23 ∨ i = 24 ∨ i = 25 ∨ i = 26 ∨ i = 27 ∨ i = 28 ∨ i = 29 ∨ i = 30 ∨ i = 31 ∨ i = 32 ∨ i = 33 ∨ i = 34 ∨ i = 35 ∨ i = 36 ∨ i = 37 ∨ i = 38 ∨ i = 39 ∨ i = 40 ∨ i = 41 ∨ i = 42 ∨ i = 43 ∨ i = 44 ∨ i = 45 ∨ i = 46 ∨ i = 47 ∨ i = 48 ∨ i = 49 ∨ i = 50 ∨ i = 51 ∨ i = 52 ∨ i = 53 ∨ i = 54 ∨ i = 55 ∨ i = 56 ∨ i = 57 ∨ i = 58 ∨ i = 59 ∨ i = 60 ∨ i = 61 ∨ i = 62 ∨ i = 63 ∨ i = 64 ∨ i = 65 ∨ i = 66 ∨ i = 67 ∨ i = 68 ∨ i = 69 ∨ i = 70 ∨ i = 71 ∨ i = 72 ∨ i = 73 ∨ i = 74 ∨ i = 75 ∨ i = 76 ∨ i = 77 ∨ i = 78 ∨ i = 79 ∨ i = 80 ∨ i = 81 ∨ i = 82 ∨ i = 83 ∨ i = 84 ∨ i = 85 ∨ i = 86 by omega) with rfl | rfl | rfl | rfl | rfl | rfl | rfl | rfl | rfl | rfl | rfl | rfl | rfl | rfl | rfl | rfl | rfl | rfl | rfl | rfl | rfl | rfl | rfl | rfl | rfl | rfl | rfl | rfl | rfl | rfl | rfl | rfl | rfl | rfl | rfl | rfl | rfl | rfl | rfl | rfl | rfl | rfl | rfl | rfl | rfl | rfl | rfl | rfl | rfl | rfl | rfl | rfl | rfl | rfl | rfl | rfl | rfl | rfl | rfl | rfl | rfl | rfl | rfl | rfl | rfl | rfl | rfl | rfl | rfl | rfl | rfl | rfl | rfl | rfl | rfl | rfl | rfl | rfl | rfl | rfl | rfl | rfl | rfl | rfl | rfl | rfl | rfl
  · have e2 : va_at D vwCl (h + 73, F87 (mkG D cI cZ cR cM h aS aB aK) h F 73) H := e
    rw [fe_0] at e2
    exact e2
  · have e2 : va_at D vwCl (h + 74, F87 (mkG D cI cZ cR cM h aS aB aK) h F 74) H := e
    rw [fe_1] at e2
    exact e2
  · have e2 : va_at D vwCl (h + 75, F87 (mkG D cI cZ cR cM h aS aB aK) h F 75) H := e
    show va_at D vwCl (h + 75, .inl (cI, 8, .inl (M0 2))) H
    refine at_i e2 (fun j hj => ?_)
    rcases (show j = 0 ∨ j = 1 ∨ j = 2 ∨ j = 3 ∨ j = 4 ∨ j = 5 ∨ j = 6 ∨ j = 7 by omega) with rfl | rfl | rfl | rfl | rfl | rfl | rfl | rfl <;> rfl
  · have e2 : va_at D vwCl (h + 76, F87 (mkG D cI cZ cR cM h aS aB aK) h F 76) H := e
    rw [fe_3] at e2
    exact e2
  · have e2 : va_at D vwCl (h + 77, F87 (mkG D cI cZ cR cM h aS aB aK) h F 77) H := e
    rw [fe_4] at e2
    exact e2
  · have e2 : va_at D vwCl (h + 78, F87 (mkG D cI cZ cR cM h aS aB aK) h F 78) H := e
    rw [fe_5] at e2
    exact e2
  · have e2 : va_at D vwCl (h + 79, F87 (mkG D cI cZ cR cM h aS aB aK) h F 79) H := e
    rw [fe_6] at e2
    exact e2
  · have e2 : va_at D vwCl (h + 80, F87 (mkG D cI cZ cR cM h aS aB aK) h F 80) H := e
    rw [fe_7] at e2
    exact e2
  · have e2 : va_at D vwCl (h + 81, F87 (mkG D cI cZ cR cM h aS aB aK) h F 81) H := e
    rw [fe_8] at e2
    exact e2
  · have e2 : va_at D vwCl (h + 82, F87 (mkG D cI cZ cR cM h aS aB aK) h F 82) H := e
    rw [fe_9] at e2
    exact e2
  · have e2 : va_at D vwCl (h + 83, F87 (mkG D cI cZ cR cM h aS aB aK) h F 83) H := e
    rw [fe_10] at e2
    exact e2
  · have e2 : va_at D vwCl (h + 84, F87 (mkG D cI cZ cR cM h aS aB aK) h F 84) H := e
    rw [fe_11] at e2
    exact e2
  · have e2 : va_at D vwCl (h + 85, F87 (mkG D cI cZ cR cM h aS aB aK) h F 85) H := e
    rw [fe_12] at e2
    exact e2
  · have e2 : va_at D vwCl (h + 86, F87 (mkG D cI cZ cR cM h aS aB aK) h F 86) H := e
    rw [fe_13] at e2
    exact e2
  · have e2 : va_at D vwCl (h + 0, F87 (mkG D cI cZ cR cM h aS aB aK) h F 0) H := e
    rw [fe_14] at e2
    exact e2
  · have e2 : va_at D vwCl (h + 1, F87 (mkG D cI cZ cR cM h aS aB aK) h F 1) H := e
    show va_at D vwCl (h + 1, .inl (cR, 8, .inr (.inr (.inr (.inr (fun j => some (gA (mkG D cI cZ cR cM h aS aB aK) (45 + j)))))))) H
    refine at_q e2 (fun j hj => ?_)
    rcases (show j = 0 ∨ j = 1 ∨ j = 2 ∨ j = 3 ∨ j = 4 ∨ j = 5 ∨ j = 6 ∨ j = 7 by omega) with rfl | rfl | rfl | rfl | rfl | rfl | rfl | rfl <;> rfl
  · have e2 : va_at D vwCl (h + 2, F87 (mkG D cI cZ cR cM h aS aB aK) h F 2) H := e
    rw [fe_16] at e2
    exact e2
  · have e2 : va_at D vwCl (h + 3, F87 (mkG D cI cZ cR cM h aS aB aK) h F 3) H := e
    rw [fe_17] at e2
    exact e2
  · have e2 : va_at D vwCl (h + 4, F87 (mkG D cI cZ cR cM h aS aB aK) h F 4) H := e
    rw [fe_18] at e2
    exact e2
  · have e2 : va_at D vwCl (h + 5, F87 (mkG D cI cZ cR cM h aS aB aK) h F 5) H := e
    rw [fe_19] at e2
    exact e2
  · have e2 : va_at D vwCl (h + 6, F87 (mkG D cI cZ cR cM h aS aB aK) h F 6) H := e
    rw [fe_20] at e2
    exact e2
  · have e2 : va_at D vwCl (h + 7, F87 (mkG D cI cZ cR cM h aS aB aK) h F 7) H := e
    rw [fe_21] at e2
    exact e2
  · have e2 : va_at D vwCl (h + 8, F87 (mkG D cI cZ cR cM h aS aB aK) h F 8) H := e
    rw [fe_22] at e2
    exact e2
  · have e2 : va_at D vwCl (h + 9, F87 (mkG D cI cZ cR cM h aS aB aK) h F 9) H := e
    rw [fe_23] at e2
    exact e2
  · have e2 : va_at D vwCl (h + 10, F87 (mkG D cI cZ cR cM h aS aB aK) h F 10) H := e
    rw [fe_24] at e2
    exact e2
  · have e2 : va_at D vwCl (h + 11, F87 (mkG D cI cZ cR cM h aS aB aK) h F 11) H := e
    rw [fe_25] at e2
    exact e2
  · have e2 : va_at D vwCl (h + 12, F87 (mkG D cI cZ cR cM h aS aB aK) h F 12) H := e
    rw [fe_26] at e2
    exact e2
  · have e2 : va_at D vwCl (h + 13, F87 (mkG D cI cZ cR cM h aS aB aK) h F 13) H := e
    rw [fe_27] at e2
    exact e2
  · have e2 : va_at D vwCl (h + 14, F87 (mkG D cI cZ cR cM h aS aB aK) h F 14) H := e
    rw [fe_28] at e2
    exact e2
  · have e2 : va_at D vwCl (h + 15, F87 (mkG D cI cZ cR cM h aS aB aK) h F 15) H := e
    rw [fe_29] at e2
    exact e2
  · have e2 : va_at D vwCl (h + 16, F87 (mkG D cI cZ cR cM h aS aB aK) h F 16) H := e
    rw [fe_30] at e2
    exact e2
  · have e2 : va_at D vwCl (h + 17, F87 (mkG D cI cZ cR cM h aS aB aK) h F 17) H := e
    rw [fe_31] at e2
    exact e2
  · have e2 : va_at D vwCl (h + 18, F87 (mkG D cI cZ cR cM h aS aB aK) h F 18) H := e
    rw [fe_32] at e2
    exact e2
  · have e2 : va_at D vwCl (h + 19, F87 (mkG D cI cZ cR cM h aS aB aK) h F 19) H := e
    rw [fe_33] at e2
    exact e2
  · have e2 : va_at D vwCl (h + 20, F87 (mkG D cI cZ cR cM h aS aB aK) h F 20) H := e
    rw [fe_34] at e2
    exact e2
  · have e2 : va_at D vwCl (h + 21, F87 (mkG D cI cZ cR cM h aS aB aK) h F 21) H := e
    rw [fe_35] at e2
    exact e2
  · have e2 : va_at D vwCl (h + 22, F87 (mkG D cI cZ cR cM h aS aB aK) h F 22) H := e
    rw [fe_36] at e2
    exact e2
  · have e2 : va_at D vwCl (h + 23, F87 (mkG D cI cZ cR cM h aS aB aK) h F 23) H := e
    rw [fe_37] at e2
    exact e2
  · have e2 : va_at D vwCl (h + 24, F87 (mkG D cI cZ cR cM h aS aB aK) h F 24) H := e
    rw [fe_38] at e2
    exact e2
  · have e2 : va_at D vwCl (h + 25, F87 (mkG D cI cZ cR cM h aS aB aK) h F 25) H := e
    rw [fe_39] at e2
    exact e2
  · have e2 : va_at D vwCl (h + 26, F87 (mkG D cI cZ cR cM h aS aB aK) h F 26) H := e
    rw [fe_40] at e2
    exact e2
  · have e2 : va_at D vwCl (h + 27, F87 (mkG D cI cZ cR cM h aS aB aK) h F 27) H := e
    show va_at D vwCl (h + 27, .inl (cM, 24, .inr (.inr (.inr (.inr (fun j => some (gA (mkG D cI cZ cR cM h aS aB aK) (61 + j)))))))) H
    refine at_q e2 (fun j hj => ?_)
    rw [mkG_a _ _ _ _ _ _ _ _ _ (show 61 + j < 87 by omega), pl_61 j hj]
    show (if j < 24 then some (h + (28 + j)) else none) = some (h + (28 + j))
    rw [if_pos hj]
  · have e2 : va_at D vwCl (h + 52, F87 (mkG D cI cZ cR cM h aS aB aK) h F 52) H := e
    show va_at D vwCl (h + 52, .inl (cM, 2, .inr (.inr (.inr (.inr (fun j => some (gA (mkG D cI cZ cR cM h aS aB aK) (85 + j)))))))) H
    refine at_q e2 (fun j hj => ?_)
    rcases (show j = 0 ∨ j = 1 by omega) with rfl | rfl <;> rfl
  · have e2 : va_at D vwCl (h + 55, F87 (mkG D cI cZ cR cM h aS aB aK) h F 55) H := e
    rw [fe_43] at e2
    exact e2
  · have e2 : va_at D vwCl (h + 56, F87 (mkG D cI cZ cR cM h aS aB aK) h F 56) H := e
    rw [fe_44] at e2
    exact e2
  · have e2 : va_at D vwCl (h + 57, F87 (mkG D cI cZ cR cM h aS aB aK) h F 57) H := e
    rw [fe_45] at e2
    exact e2
  · have e2 : va_at D vwCl (h + 59, F87 (mkG D cI cZ cR cM h aS aB aK) h F 59) H := e
    rw [fe_46] at e2
    exact e2
  · have e2 : va_at D vwCl (h + 61, F87 (mkG D cI cZ cR cM h aS aB aK) h F 61) H := e
    rw [fe_47] at e2
    exact e2
  · have e2 : va_at D vwCl (h + 63, F87 (mkG D cI cZ cR cM h aS aB aK) h F 63) H := e
    rw [fe_48] at e2
    exact e2
  · have e2 : va_at D vwCl (h + 65, F87 (mkG D cI cZ cR cM h aS aB aK) h F 65) H := e
    rw [fe_49] at e2
    exact e2
  · have e2 : va_at D vwCl (h + 67, F87 (mkG D cI cZ cR cM h aS aB aK) h F 67) H := e
    rw [fe_50] at e2
    exact e2
  · have e2 : va_at D vwCl (h + 69, F87 (mkG D cI cZ cR cM h aS aB aK) h F 69) H := e
    rw [fe_51] at e2
    exact e2
  · have e2 : va_at D vwCl (h + 71, F87 (mkG D cI cZ cR cM h aS aB aK) h F 71) H := e
    rw [fe_52] at e2
    exact e2
  · have e2 : va_at D vwCl (h + 58, F87 (mkG D cI cZ cR cM h aS aB aK) h F 58) H := e
    rw [fe_53] at e2
    exact e2
  · have e2 : va_at D vwCl (h + 60, F87 (mkG D cI cZ cR cM h aS aB aK) h F 60) H := e
    rw [fe_54] at e2
    exact e2
  · have e2 : va_at D vwCl (h + 62, F87 (mkG D cI cZ cR cM h aS aB aK) h F 62) H := e
    rw [fe_55] at e2
    exact e2
  · have e2 : va_at D vwCl (h + 64, F87 (mkG D cI cZ cR cM h aS aB aK) h F 64) H := e
    rw [fe_56] at e2
    exact e2
  · have e2 : va_at D vwCl (h + 66, F87 (mkG D cI cZ cR cM h aS aB aK) h F 66) H := e
    rw [fe_57] at e2
    exact e2
  · have e2 : va_at D vwCl (h + 68, F87 (mkG D cI cZ cR cM h aS aB aK) h F 68) H := e
    rw [fe_58] at e2
    exact e2
  · have e2 : va_at D vwCl (h + 70, F87 (mkG D cI cZ cR cM h aS aB aK) h F 70) H := e
    rw [fe_59] at e2
    exact e2
  · have e2 : va_at D vwCl (h + 72, F87 (mkG D cI cZ cR cM h aS aB aK) h F 72) H := e
    rw [fe_60] at e2
    exact e2
  · have e2 : va_at D vwCl (h + 28, F87 (mkG D cI cZ cR cM h aS aB aK) h F 28) H := e
    rw [fe_61] at e2
    exact e2
  · have e2 : va_at D vwCl (h + 29, F87 (mkG D cI cZ cR cM h aS aB aK) h F 29) H := e
    rw [fe_62] at e2
    exact e2
  · have e2 : va_at D vwCl (h + 30, F87 (mkG D cI cZ cR cM h aS aB aK) h F 30) H := e
    rw [fe_63] at e2
    exact e2
  · have e2 : va_at D vwCl (h + 31, F87 (mkG D cI cZ cR cM h aS aB aK) h F 31) H := e
    rw [fe_64] at e2
    exact e2
  · have e2 : va_at D vwCl (h + 32, F87 (mkG D cI cZ cR cM h aS aB aK) h F 32) H := e
    rw [fe_65] at e2
    exact e2
  · have e2 : va_at D vwCl (h + 33, F87 (mkG D cI cZ cR cM h aS aB aK) h F 33) H := e
    rw [fe_66] at e2
    exact e2
  · have e2 : va_at D vwCl (h + 34, F87 (mkG D cI cZ cR cM h aS aB aK) h F 34) H := e
    rw [fe_67] at e2
    exact e2
  · have e2 : va_at D vwCl (h + 35, F87 (mkG D cI cZ cR cM h aS aB aK) h F 35) H := e
    rw [fe_68] at e2
    exact e2
  · have e2 : va_at D vwCl (h + 36, F87 (mkG D cI cZ cR cM h aS aB aK) h F 36) H := e
    rw [fe_69] at e2
    exact e2
  · have e2 : va_at D vwCl (h + 37, F87 (mkG D cI cZ cR cM h aS aB aK) h F 37) H := e
    rw [fe_70] at e2
    exact e2
  · have e2 : va_at D vwCl (h + 38, F87 (mkG D cI cZ cR cM h aS aB aK) h F 38) H := e
    rw [fe_71] at e2
    exact e2
  · have e2 : va_at D vwCl (h + 39, F87 (mkG D cI cZ cR cM h aS aB aK) h F 39) H := e
    rw [fe_72] at e2
    exact e2
  · have e2 : va_at D vwCl (h + 40, F87 (mkG D cI cZ cR cM h aS aB aK) h F 40) H := e
    rw [fe_73] at e2
    exact e2
  · have e2 : va_at D vwCl (h + 41, F87 (mkG D cI cZ cR cM h aS aB aK) h F 41) H := e
    rw [fe_74] at e2
    exact e2
  · have e2 : va_at D vwCl (h + 42, F87 (mkG D cI cZ cR cM h aS aB aK) h F 42) H := e
    rw [fe_75] at e2
    exact e2
  · have e2 : va_at D vwCl (h + 43, F87 (mkG D cI cZ cR cM h aS aB aK) h F 43) H := e
    rw [fe_76] at e2
    exact e2
  · have e2 : va_at D vwCl (h + 44, F87 (mkG D cI cZ cR cM h aS aB aK) h F 44) H := e
    rw [fe_77] at e2
    exact e2
  · have e2 : va_at D vwCl (h + 45, F87 (mkG D cI cZ cR cM h aS aB aK) h F 45) H := e
    rw [fe_78] at e2
    exact e2
  · have e2 : va_at D vwCl (h + 46, F87 (mkG D cI cZ cR cM h aS aB aK) h F 46) H := e
    rw [fe_79] at e2
    exact e2
  · have e2 : va_at D vwCl (h + 47, F87 (mkG D cI cZ cR cM h aS aB aK) h F 47) H := e
    rw [fe_80] at e2
    exact e2
  · have e2 : va_at D vwCl (h + 48, F87 (mkG D cI cZ cR cM h aS aB aK) h F 48) H := e
    rw [fe_81] at e2
    exact e2
  · have e2 : va_at D vwCl (h + 49, F87 (mkG D cI cZ cR cM h aS aB aK) h F 49) H := e
    rw [fe_82] at e2
    exact e2
  · have e2 : va_at D vwCl (h + 50, F87 (mkG D cI cZ cR cM h aS aB aK) h F 50) H := e
    rw [fe_83] at e2
    exact e2
  · have e2 : va_at D vwCl (h + 51, F87 (mkG D cI cZ cR cM h aS aB aK) h F 51) H := e
    rw [fe_84] at e2
    exact e2
  · have e2 : va_at D vwCl (h + 53, F87 (mkG D cI cZ cR cM h aS aB aK) h F 53) H := e
    rw [fe_85] at e2
    exact e2
  · have e2 : va_at D vwCl (h + 54, F87 (mkG D cI cZ cR cM h aS aB aK) h F 54) H := e
    rw [fe_86] at e2
    exact e2
set_option maxRecDepth 100000 in
set_option maxHeartbeats 4000000 in
theorem begin_all {s : State} {b : Nat} (hts : ∀ w ∈ lw_tbl, w.before #[Value.ref b] s = true) (hgv : (Jvm.Cond.and given_1 narrow_1).before #[Value.ref b] s = true) : ∃ (D : va_G) (cI cZ cR cM : ClassId) (aS aB aK : Nat), KK (mkG D cI cZ cR cM s.heap.size aS aB aK) s ∧ Ex (mkG D cI cZ cR cM s.heap.size aS aB aK) s s.heap ∧ AO2 s := by
  have hs := flat_of_before _ hgv
  have hA : ∀ a : Nat, a < s.heap.size → ¬ (fun q => s.heap.size ≤ q) a := fun a h1 h2 => by
    dsimp only at h2
    omega
  obtain ⟨c0, s0, k0⟩ := u_known (ws := lw_tbl) (C := RX0) (T := TX0) (N := 2) hts inX0 (hts (.instantiable RX0 2) (List.mem_of_getElem? (i := 205) (by decide +kernel)))
  obtain ⟨c1, s1, k1⟩ := u_known (ws := lw_tbl) (C := RX1) (T := TX1) (N := 3) hts inX1 (hts (.instantiable RX1 3) (List.mem_of_getElem? (i := 185) (by decide +kernel)))
  obtain ⟨c2, s2, k2⟩ := u_known (ws := lw_tbl) (C := RX2) (T := TX2) (N := 14) hts inX2 (hts (.instantiable RX2 14) (List.mem_of_getElem? (i := 120) (by decide +kernel)))
  obtain ⟨c3, s3, k3⟩ := u_known (ws := lw_tbl) (C := RX3) (T := TX3) (N := 3) hts inX3 (hts (.instantiable RX3 3) (List.mem_of_getElem? (i := 219) (by decide +kernel)))
  obtain ⟨c4, s4, k4⟩ := u_known (ws := lw_tbl) (C := RX4) (T := TX4) (N := 4) hts inX4 (hts (.instantiable RX4 4) (List.mem_of_getElem? (i := 98) (by decide +kernel)))
  obtain ⟨c5, s5, k5⟩ := u_known (ws := lw_tbl) (C := RX5) (T := TX5) (N := 12) hts inX5 (hts (.instantiable RX5 12) (List.mem_of_getElem? (i := 88) (by decide +kernel)))
  obtain ⟨c6, s6, k6⟩ := u_known (ws := lw_tbl) (C := RX6) (T := TX6) (N := 25) hts inX6 (hts (.instantiable RX6 25) (List.mem_of_getElem? (i := 836) (by decide +kernel)))
  obtain ⟨cI, kI, pI, fI1, fI2, fI3⟩ := Cond.arrayClass_spec (hts (.arrayClass .int) (List.mem_of_getElem? (i := 118) (by decide +kernel)))
  obtain ⟨cZ, kZ, pZ, fZ1, fZ2, fZ3⟩ := Cond.arrayClass_spec (hts (.arrayClass .boolean) (List.mem_of_getElem? (i := 917) (by decide +kernel)))
  have hAO1 := hts (.arrayOver (.object "ChairRanks$Row")) (List.mem_of_getElem? (i := 96) (by decide +kernel))
  have hAO2 := hts (.arrayOver (.array .int)) (List.mem_of_getElem? (i := 191) (by decide +kernel))
  obtain ⟨pR, cR, kR, g1, g2, g3, g4, g5⟩ := Cond.arrayOver_spec hAO1
  obtain ⟨pM, cM, kM, m1, m2, m3, m4, m5⟩ := Jvm.Stand.arrayOver_specB hAO2
  obtain ⟨aK, hevK, hTK⟩ := va_Tof (tm := .static "ChairRanks" "KIND_ABOVE" "[I") (ty := .int) (N := 6) (f := kaF) (A := fun q => s.heap.size ≤ q) (by decide) (hs (.arrayOf (.static "ChairRanks" "KIND_ABOVE" "[I") .int) (by decide +kernel)) (va_eqt (hs (.eq (.length (.static "ChairRanks" "KIND_ABOVE" "[I")) (.int 6)) (by decide +kernel))) (fun j hj => by
    rcases (show j = 0 ∨ j = 1 ∨ j = 2 ∨ j = 3 ∨ j = 4 ∨ j = 5 by omega) with rfl | rfl | rfl | rfl | rfl | rfl
    · exact va_eqt (z := -1000000) (hs (.eq (.elem (.static "ChairRanks" "KIND_ABOVE" "[I") (.int 0)) (.int (-1000000))) (by decide +kernel))
    · exact va_eqt (z := 0) (hs (.eq (.elem (.static "ChairRanks" "KIND_ABOVE" "[I") (.int 1)) (.int (0))) (by decide +kernel))
    · exact va_eqt (z := 1) (hs (.eq (.elem (.static "ChairRanks" "KIND_ABOVE" "[I") (.int 2)) (.int (1))) (by decide +kernel))
    · exact va_eqt (z := 1) (hs (.eq (.elem (.static "ChairRanks" "KIND_ABOVE" "[I") (.int 3)) (.int (1))) (by decide +kernel))
    · exact va_eqt (z := 0) (hs (.eq (.elem (.static "ChairRanks" "KIND_ABOVE" "[I") (.int 4)) (.int (0))) (by decide +kernel))
    · exact va_eqt (z := 4) (hs (.eq (.elem (.static "ChairRanks" "KIND_ABOVE" "[I") (.int 5)) (.int (4))) (by decide +kernel))
    ) hA
  obtain ⟨adK, adV, hS, hevS⟩ := vk_Sof (args := #[Value.ref b]) (s := s) (N := 1) (tm := fun _ => .string "ChairRanks$Tape" 51) (len := [5]) (byt := [[112, 114, 99, 111, 116]]) (A := fun q => s.heap.size ≤ q) (fun i hi => by rcases (show i = 0 by omega) with rfl; decide) (fun i hi => hs (.exactly (.string "ChairRanks$Tape" 51) "java/lang/String") (by decide +kernel)) (fun i hi => hs (.eq (.field (.string "ChairRanks$Tape" 51) "java/lang/String" "coder" "B") (.int 0)) (by decide +kernel)) (fun i hi => hs (.arrayOf (.field (.string "ChairRanks$Tape" 51) "java/lang/String" "value" "[B") .byte) (by decide +kernel)) (fun i hi => by
      rcases (show i = 0 by omega) with rfl
      exact hs (.eq (.length (.field (.string "ChairRanks$Tape" 51) "java/lang/String" "value" "[B")) (.int 5)) (by decide +kernel)) (fun i hi j hj => by
      rcases (show i = 0 by omega) with rfl
      have hj5 : j < 5 := hj
      rcases (show j = 0 ∨ j = 1 ∨ j = 2 ∨ j = 3 ∨ j = 4 by omega) with rfl | rfl | rfl | rfl | rfl
      · exact hs (.eq (.elem (.field (.string "ChairRanks$Tape" 51) "java/lang/String" "value" "[B") (.int 0)) (.int 112)) (by decide +kernel)
      · exact hs (.eq (.elem (.field (.string "ChairRanks$Tape" 51) "java/lang/String" "value" "[B") (.int 1)) (.int 114)) (by decide +kernel)
      · exact hs (.eq (.elem (.field (.string "ChairRanks$Tape" 51) "java/lang/String" "value" "[B") (.int 2)) (.int 99)) (by decide +kernel)
      · exact hs (.eq (.elem (.field (.string "ChairRanks$Tape" 51) "java/lang/String" "value" "[B") (.int 3)) (.int 111)) (by decide +kernel)
      · exact hs (.eq (.elem (.field (.string "ChairRanks$Tape" 51) "java/lang/String" "value" "[B") (.int 4)) (.int 116)) (by decide +kernel)
      ) (fun i j hi hj hne => by omega) hA
  have hZK := va_Zof (A := fun q => s.heap.size ≤ q) (hts (.laysStatic "ChairRanks" "KIND_ABOVE" "[I") (List.mem_of_getElem? (i := 772) (by decide +kernel))) (hts (.initialized "ChairRanks") (List.mem_of_getElem? (i := 71) (by decide +kernel))) hevK hA
  have hZC := va_Zof (A := fun q => s.heap.size ≤ q) (hts (.laysStatic "java/lang/String" "COMPACT_STRINGS" "Z") (List.mem_of_getElem? (i := 387) (by decide +kernel))) (hts (.initialized "java/lang/String") (List.mem_of_getElem? (i := 80) (by decide +kernel))) (va_eqi (hs (.eq (.static "java/lang/String" "COMPACT_STRINGS" "Z") (.int 1)) (by decide +kernel))) hA
  have hR := vk_R.of (hts (.stringRef "ChairRanks$Tape" 51 "prcot") (List.mem_of_getElem? (i := 373) (by decide +kernel))) (hevS 0 (by decide))
  refine ⟨(fun c => [c0, c1, c2, c3, c4, c5, c6].getD c c0, fun c => [s0, s1, s2, s3, s4, s5, s6].getD c s0), cI, cZ, cR, cM, adK 0, adV 0, aK, ⟨mkG_inj _ _ _ _ _ _ _ _ _, ⟨fun c q hq => ?_, fun k q hq => ?_⟩, fun w hw => ?_⟩, ⟨?_, ?_, hR, ?_, ?_⟩, va_AO.of hAO1, hAO2⟩
  · have hc : c < 7 := (List.getElem?_eq_some_iff.mp hq).1
    rcases (show c = 0 ∨ c = 1 ∨ c = 2 ∨ c = 3 ∨ c = 4 ∨ c = 5 ∨ c = 6 by omega) with rfl | rfl | rfl | rfl | rfl | rfl | rfl
    · cases hq; exact k0
    · cases hq; exact k1
    · cases hq; exact k2
    · cases hq; exact k3
    · cases hq; exact k4
    · cases hq; exact k5
    · cases hq; exact k6
  · have hc : k < 4 := (List.getElem?_eq_some_iff.mp hq).1
    rcases (show k = 0 ∨ k = 1 ∨ k = 2 ∨ k = 3 by omega) with rfl | rfl | rfl | rfl
    · cases hq; exact ⟨fun n z => ⟨(fun k h => by cases h), kI, fI2, pI, fI3⟩, fI1⟩
    · cases hq; exact ⟨fun n z => ⟨(fun k h => by cases h), kZ, fZ2, pZ, fZ3⟩, fZ1⟩
    · cases hq; exact ⟨fun n z => ⟨(fun k h => by cases h), kR, g3, pR, g4⟩, kR, pR, g3, g4, g1, g5⟩
    · cases hq; exact ⟨fun n z => ⟨(fun k h => by cases h), kM, m3, pM, m4⟩, m5⟩
  · obtain ⟨h1, h2⟩ := List.mem_filter.mp hw
    have h3 := hts w h1
    cases w <;> first | exact va_Nw.of rfl h3 | (simp [isNest] at h2)
  · exact hZK.narrow (fun q hq => mkG_Ax _ _ _ _ _ _ _ _ _ hq)
  · exact hTK.narrow (fun q hq => mkG_Ax _ _ _ _ _ _ _ _ _ hq)
  · refine (show ∀ B : Nat → Prop, (∀ q, B q → s.heap.size ≤ q) → vk_S 1 [5] [[112, 114, 99, 111, 116]] (fun _ => adK 0) (fun _ => adV 0) B s s.heap from fun B hB => ?_) _ (fun q hq => mkG_Ax _ _ _ _ _ _ _ _ _ hq)
    have hS2 := hS.narrow (B := B) hB
    exact ⟨fun i hi => by rcases (show i = 0 by omega) with rfl; exact hS2.1 0 hi, fun i j hi hj _ => by omega⟩
  · exact hZC.narrow (fun q hq => mkG_Ax _ _ _ _ _ _ _ _ _ hq)
set_option maxRecDepth 100000 in
set_option maxHeartbeats 8000000 in
theorem law_begin {p : Program} {l : Launch} {e : Env} {s : State} {m : MethodId} {a : Array Value} {bl : List Frame} {me : Method} {c : Code} {Q : State → Prop} (D : va_G) (cI cZ cR cM : ClassId) (h aS aB aK : Nat) (F : Nat → va_E) (b : Nat)
    (hv : V (p, l, e, s, m, a, bl, me, c, (mkG D cI cZ cR cM h aS aB aK), 87, 3518) cL_law RL 4 ret room_1 Q M0 18 [some (.ref b), some (.ref (gA (mkG D cI cZ cR cM h aS aB aK) 14)), some (.ref (gA (mkG D cI cZ cR cM h aS aB aK) 0)), some (.int (nI 0))] []) : U (p, l, e, s, m, a, bl, me, c, (mkG D cI cZ cR cM h aS aB aK), 0, 0) cL_law RL 4 ret room_1 Q h 0 0 0 F 0 [some (.ref b), none, none, none] [] := by
  refine u_new (C := RX5) (T := TX5) (N := 12) (ci := 5) (fs := [.null, .null, .null, .null, .null, .null, .null, .null, .null, .int 0, .int 0, .int 0]) inG5 tyX5 tyX5_ok (in_g (List.mem_of_getElem? (i := 87) (by decide +kernel)) (by decide +kernel)) (in_g (List.mem_of_getElem? (i := 88) (by decide +kernel)) (by decide +kernel)) (in_g (List.mem_of_getElem? (i := 71) (by decide +kernel)) (by decide +kernel)) rfl (fun j hj => by rcases (show j = 0 ∨ j = 1 ∨ j = 2 ∨ j = 3 ∨ j = 4 ∨ j = 5 ∨ j = 6 ∨ j = 7 ∨ j = 8 ∨ j = 9 ∨ j = 10 ∨ j = 11 by omega) with rfl | rfl | rfl | rfl | rfl | rfl | rfl | rfl | rfl | rfl | rfl | rfl <;> rfl) (Nat.le_of_ble_eq_true rfl) (Nat.le_of_ble_eq_true rfl) (pc := 0) dL_law_0 ?_
  refine u_dup (pc := 3) dL_law_3 rfl ?_
  refine u_call (y := yX5_init) (cb := cX5_init) (nc := 2) (fr := 2) (lo := 100) (mc := 72) (ms := 1772) (o := 0) (in_g (List.mem_of_getElem? (i := 89) (by decide +kernel)) (by decide +kernel)) (in_g (List.mem_of_getElem? (i := 90) (by decide +kernel)) (by decide +kernel)) (in_g (List.mem_of_getElem? (i := 71) (by decide +kernel)) (by decide +kernel)) (in_g (List.mem_of_getElem? (i := 91) (by decide +kernel)) (by decide +kernel)) rfl (by decide +kernel) (c_X5_init _ _ h _ (mkG_Bx _ _ _ _ _ _ _ _ _) (by omega) (by omega) (updE_eq _ _ _)) ⟨(Nat.le_of_ble_eq_true rfl), (Nat.le_of_ble_eq_true rfl)⟩ (Nat.le_of_ble_eq_true rfl) ⟨(Nat.le_of_ble_eq_true rfl), (Nat.le_of_ble_eq_true rfl)⟩ (pc := 4) dL_law_4 ?_
  refine u_ast_n [_, _, _, _] (pc := 7) dL_law_7 (by decide) rfl rfl ?_
  refine u_new (C := RX6) (T := TX6) (N := 25) (ci := 6) (fs := [.null, .null, .null, .int 0, .int 0, .null, .null, .null, .int 0, .int 0, .int 0, .int 0, .int 0, .int 0, .int 0, .null, .null, .int 0, .null, .int 0, .null, .null, .null, .null, .int 0]) inG6 tyX6 tyX6_ok (in_g (List.mem_of_getElem? (i := 835) (by decide +kernel)) (by decide +kernel)) (in_g (List.mem_of_getElem? (i := 836) (by decide +kernel)) (by decide +kernel)) (in_g (List.mem_of_getElem? (i := 77) (by decide +kernel)) (by decide +kernel)) rfl (fun j hj => by rcases (show j = 0 ∨ j = 1 ∨ j = 2 ∨ j = 3 ∨ j = 4 ∨ j = 5 ∨ j = 6 ∨ j = 7 ∨ j = 8 ∨ j = 9 ∨ j = 10 ∨ j = 11 ∨ j = 12 ∨ j = 13 ∨ j = 14 ∨ j = 15 ∨ j = 16 ∨ j = 17 ∨ j = 18 ∨ j = 19 ∨ j = 20 ∨ j = 21 ∨ j = 22 ∨ j = 23 ∨ j = 24 by omega) with rfl | rfl | rfl | rfl | rfl | rfl | rfl | rfl | rfl | rfl | rfl | rfl | rfl | rfl | rfl | rfl | rfl | rfl | rfl | rfl | rfl | rfl | rfl | rfl | rfl <;> rfl) (Nat.le_of_ble_eq_true rfl) (Nat.le_of_ble_eq_true rfl) (pc := 8) dL_law_8 ?_
  refine u_dup (pc := 11) dL_law_11 rfl ?_
  refine u_call (y := yX6_init) (cb := cX6_init) (nc := 2) (fr := 1) (lo := 60) (mc := 13) (ms := 1709) (o := 73) (in_g (List.mem_of_getElem? (i := 837) (by decide +kernel)) (by decide +kernel)) (in_g (List.mem_of_getElem? (i := 838) (by decide +kernel)) (by decide +kernel)) (in_g (List.mem_of_getElem? (i := 77) (by decide +kernel)) (by decide +kernel)) (in_g (List.mem_of_getElem? (i := 839) (by decide +kernel)) (by decide +kernel)) rfl (by decide +kernel) (c_X6_init _ _ h _ (mkG_Bx _ _ _ _ _ _ _ _ _) (by omega) (by omega) (updE_eq _ _ _)) ⟨(Nat.le_of_ble_eq_true rfl), (Nat.le_of_ble_eq_true rfl)⟩ (Nat.le_of_ble_eq_true rfl) ⟨(Nat.le_of_ble_eq_true rfl), (Nat.le_of_ble_eq_true rfl)⟩ (pc := 12) dL_law_12 ?_
  refine u_ast_n [_, _, _, _] (pc := 15) dL_law_15 (by decide) rfl rfl ?_
  refine u_iconst (v := nI 0) (pc := 16) dL_law_16 (by decide) ?_
  refine u_ist_n [_, _, _, _] (pc := 17) dL_law_17 (by decide) rfl rfl ?_
  exact fun cx hB hA hs0 H locs ls hP hS hl => hv cx H locs ls (end_world _ _ _ _ _ _ _ _ _ F hP) hS hl

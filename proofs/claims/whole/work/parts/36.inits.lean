theorem dX4_init_0 : decode cX4_init 0 = .ok (.aload_n 0, 1) := by decide +kernel
theorem dX4_init_1 : decode cX4_init 1 = .ok (.invokespecial 3, 3) := by decide +kernel
theorem dX4_init_4 : decode cX4_init 4 = .ok (.aload_n 0, 1) := by decide +kernel
theorem dX4_init_5 : decode cX4_init 5 = .ok (.bipush 12, 2) := by decide +kernel
theorem dX4_init_7 : decode cX4_init 7 = .ok (.newarray .int, 2) := by decide +kernel
theorem dX4_init_9 : decode cX4_init 9 = .ok (.putfield 9, 3) := by decide +kernel
theorem dX4_init_12 : decode cX4_init 12 = .ok (.aload_n 0, 1) := by decide +kernel
theorem dX4_init_13 : decode cX4_init 13 = .ok (.bipush 12, 2) := by decide +kernel
theorem dX4_init_15 : decode cX4_init 15 = .ok (.newarray .int, 2) := by decide +kernel
theorem dX4_init_17 : decode cX4_init 17 = .ok (.putfield 15, 3) := by decide +kernel
theorem dX4_init_20 : decode cX4_init 20 = .ok (.aload_n 0, 1) := by decide +kernel
theorem dX4_init_21 : decode cX4_init 21 = .ok (.bipush 12, 2) := by decide +kernel
theorem dX4_init_23 : decode cX4_init 23 = .ok (.newarray .long, 2) := by decide +kernel
theorem dX4_init_25 : decode cX4_init 25 = .ok (.putfield 18, 3) := by decide +kernel
theorem dX4_init_28 : decode cX4_init 28 = .ok (.return_, 1) := by decide +kernel
theorem dX4_search_0 : decode cX4_search 0 = .ok (.aload_n 0, 1) := by decide +kernel
theorem dX4_search_1 : decode cX4_search 1 = .ok (.aload_n 1, 1) := by decide +kernel
theorem dX4_search_2 : decode cX4_search 2 = .ok (.lload_n 2, 1) := by decide +kernel
theorem dX4_search_3 : decode cX4_search 3 = .ok (.invokevirtual 22, 3) := by decide +kernel
theorem dX4_search_6 : decode cX4_search 6 = .ok (.aload_n 0, 1) := by decide +kernel
theorem dX4_search_7 : decode cX4_search 7 = .ok (.iload 6, 2) := by decide +kernel
theorem dX4_search_9 : decode cX4_search 9 = .ok (.putfield 26, 3) := by decide +kernel
theorem dX4_search_12 : decode cX4_search 12 = .ok (.aload_n 0, 1) := by decide +kernel
theorem dX4_search_13 : decode cX4_search 13 = .ok (.sipush 12000, 3) := by decide +kernel
theorem dX4_search_16 : decode cX4_search 16 = .ok (.putfield 30, 3) := by decide +kernel
theorem dX4_search_19 : decode cX4_search 19 = .ok (.aload_n 0, 1) := by decide +kernel
theorem dX4_search_20 : decode cX4_search 20 = .ok (.lconst 0, 1) := by decide +kernel
theorem dX4_search_21 : decode cX4_search 21 = .ok (.putfield 33, 3) := by decide +kernel
theorem dX4_search_24 : decode cX4_search 24 = .ok (.aload_n 0, 1) := by decide +kernel
theorem dX4_search_25 : decode cX4_search 25 = .ok (.aload_n 0, 1) := by decide +kernel
theorem dX4_search_26 : decode cX4_search 26 = .ok (.getfield 37, 3) := by decide +kernel
theorem dX4_search_29 : decode cX4_search 29 = .ok (.lload 4, 2) := by decide +kernel
theorem dX4_search_31 : decode cX4_search 31 = .ok (.lconst 0, 1) := by decide +kernel
theorem dX4_search_32 : decode cX4_search 32 = .ok (.iconst 0, 1) := by decide +kernel
theorem dX4_search_33 : decode cX4_search 33 = .ok (.invokestatic 40, 3) := by decide +kernel
theorem dX4_search_36 : decode cX4_search 36 = .ok (.aload_n 0, 1) := by decide +kernel
theorem dX4_search_37 : decode cX4_search 37 = .ok (.getfield 30, 3) := by decide +kernel
theorem dX4_search_40 : decode cX4_search 40 = .ok (.sipush 12000, 3) := by decide +kernel
theorem dX4_search_43 : decode cX4_search 43 = .ok (.if_icmp .ge 7, 3) := by decide +kernel
theorem dX4_search_46 : decode cX4_search 46 = .ok (.iconst 1, 1) := by decide +kernel
theorem dX4_search_47 : decode cX4_search 47 = .ok (.goto 4, 3) := by decide +kernel
theorem dX4_search_50 : decode cX4_search 50 = .ok (.iconst 0, 1) := by decide +kernel
theorem dX4_search_51 : decode cX4_search 51 = .ok (.ireturn, 1) := by decide +kernel
theorem dX4_gather_0 : decode cX4_gather 0 = .ok (.aload_n 0, 1) := by decide +kernel
theorem dX4_gather_1 : decode cX4_gather 1 = .ok (.iconst 0, 1) := by decide +kernel
theorem dX4_gather_2 : decode cX4_gather 2 = .ok (.putfield 37, 3) := by decide +kernel
theorem dX4_gather_5 : decode cX4_gather 5 = .ok (.iconst 0, 1) := by decide +kernel
theorem dX4_gather_6 : decode cX4_gather 6 = .ok (.istore 4, 2) := by decide +kernel
theorem dX4_gather_8 : decode cX4_gather 8 = .ok (.iload 4, 2) := by decide +kernel
theorem dX4_gather_10 : decode cX4_gather 10 = .ok (.aload_n 1, 1) := by decide +kernel
theorem dX4_gather_11 : decode cX4_gather 11 = .ok (.getfield 44, 3) := by decide +kernel
theorem dX4_gather_14 : decode cX4_gather 14 = .ok (.if_icmp .ge 89, 3) := by decide +kernel
theorem dX4_gather_17 : decode cX4_gather 17 = .ok (.aload_n 1, 1) := by decide +kernel
theorem dX4_gather_18 : decode cX4_gather 18 = .ok (.iload 4, 2) := by decide +kernel
theorem dX4_gather_20 : decode cX4_gather 20 = .ok (.invokevirtual 49, 3) := by decide +kernel
theorem dX4_gather_23 : decode cX4_gather 23 = .ok (.astore 5, 2) := by decide +kernel
theorem dX4_gather_25 : decode cX4_gather 25 = .ok (.aload 5, 2) := by decide +kernel
theorem dX4_gather_27 : decode cX4_gather 27 = .ok (.ifnull 70, 3) := by decide +kernel
theorem dX4_gather_30 : decode cX4_gather 30 = .ok (.lload_n 2, 1) := by decide +kernel
theorem dX4_gather_31 : decode cX4_gather 31 = .ok (.iload 4, 2) := by decide +kernel
theorem dX4_gather_33 : decode cX4_gather 33 = .ok (.invokestatic 53, 3) := by decide +kernel
theorem dX4_gather_36 : decode cX4_gather 36 = .ok (.ifCond .eq 61, 3) := by decide +kernel
theorem dX4_gather_39 : decode cX4_gather 39 = .ok (.aload_n 0, 1) := by decide +kernel
theorem dX4_gather_40 : decode cX4_gather 40 = .ok (.getfield 37, 3) := by decide +kernel
theorem dX4_gather_43 : decode cX4_gather 43 = .ok (.bipush 12, 2) := by decide +kernel
theorem dX4_gather_45 : decode cX4_gather 45 = .ok (.if_icmp .ge 52, 3) := by decide +kernel
theorem dX4_gather_48 : decode cX4_gather 48 = .ok (.aload_n 0, 1) := by decide +kernel
theorem dX4_gather_49 : decode cX4_gather 49 = .ok (.getfield 9, 3) := by decide +kernel
theorem dX4_gather_52 : decode cX4_gather 52 = .ok (.aload_n 0, 1) := by decide +kernel
theorem dX4_gather_53 : decode cX4_gather 53 = .ok (.getfield 37, 3) := by decide +kernel
theorem dX4_gather_56 : decode cX4_gather 56 = .ok (.iload 4, 2) := by decide +kernel
theorem dX4_gather_58 : decode cX4_gather 58 = .ok (.iastore, 1) := by decide +kernel
theorem dX4_gather_59 : decode cX4_gather 59 = .ok (.aload_n 0, 1) := by decide +kernel
theorem dX4_gather_60 : decode cX4_gather 60 = .ok (.getfield 15, 3) := by decide +kernel
theorem dX4_gather_63 : decode cX4_gather 63 = .ok (.aload_n 0, 1) := by decide +kernel
theorem dX4_gather_64 : decode cX4_gather 64 = .ok (.getfield 37, 3) := by decide +kernel
theorem dX4_gather_67 : decode cX4_gather 67 = .ok (.aload 5, 2) := by decide +kernel
theorem dX4_gather_69 : decode cX4_gather 69 = .ok (.getfield 57, 3) := by decide +kernel
theorem dX4_gather_72 : decode cX4_gather 72 = .ok (.iastore, 1) := by decide +kernel
theorem dX4_gather_73 : decode cX4_gather 73 = .ok (.aload_n 0, 1) := by decide +kernel
theorem dX4_gather_74 : decode cX4_gather 74 = .ok (.getfield 18, 3) := by decide +kernel
theorem dX4_gather_77 : decode cX4_gather 77 = .ok (.aload_n 0, 1) := by decide +kernel
theorem dX4_gather_78 : decode cX4_gather 78 = .ok (.getfield 37, 3) := by decide +kernel
theorem dX4_gather_81 : decode cX4_gather 81 = .ok (.aload 5, 2) := by decide +kernel
theorem dX4_gather_83 : decode cX4_gather 83 = .ok (.getfield 61, 3) := by decide +kernel
theorem dX4_gather_86 : decode cX4_gather 86 = .ok (.lastore, 1) := by decide +kernel
theorem dX4_gather_87 : decode cX4_gather 87 = .ok (.aload_n 0, 1) := by decide +kernel
theorem dX4_gather_88 : decode cX4_gather 88 = .ok (.dup, 1) := by decide +kernel
theorem dX4_gather_89 : decode cX4_gather 89 = .ok (.getfield 37, 3) := by decide +kernel
theorem dX4_gather_92 : decode cX4_gather 92 = .ok (.iconst 1, 1) := by decide +kernel
theorem dX4_gather_93 : decode cX4_gather 93 = .ok (.iadd, 1) := by decide +kernel
theorem dX4_gather_94 : decode cX4_gather 94 = .ok (.putfield 37, 3) := by decide +kernel
theorem dX4_gather_97 : decode cX4_gather 97 = .ok (.iinc 4 1, 3) := by decide +kernel
theorem dX4_gather_100 : decode cX4_gather 100 = .ok (.goto (-92), 3) := by decide +kernel
theorem dX4_gather_103 : decode cX4_gather 103 = .ok (.return_, 1) := by decide +kernel
theorem dX4_decide_0 : decode cX4_decide 0 = .ok (.iload_n 1, 1) := by decide +kernel
theorem dX4_decide_1 : decode cX4_decide 1 = .ok (.aload_n 0, 1) := by decide +kernel
theorem dX4_decide_2 : decode cX4_decide 2 = .ok (.getfield 37, 3) := by decide +kernel
theorem dX4_decide_5 : decode cX4_decide 5 = .ok (.if_icmp .gt 9, 3) := by decide +kernel
theorem dX4_decide_8 : decode cX4_decide 8 = .ok (.iload_n 1, 1) := by decide +kernel
theorem dX4_decide_9 : decode cX4_decide 9 = .ok (.bipush 12, 2) := by decide +kernel
theorem dX4_decide_11 : decode cX4_decide 11 = .ok (.if_icmp .le 4, 3) := by decide +kernel
theorem dX4_decide_14 : decode cX4_decide 14 = .ok (.return_, 1) := by decide +kernel
theorem dX4_decide_15 : decode cX4_decide 15 = .ok (.lload_n 2, 1) := by decide +kernel
theorem dX4_decide_16 : decode cX4_decide 16 = .ok (.invokestatic 63, 3) := by decide +kernel
theorem dX4_decide_19 : decode cX4_decide 19 = .ok (.aload_n 0, 1) := by decide +kernel
theorem dX4_decide_20 : decode cX4_decide 20 = .ok (.getfield 26, 3) := by decide +kernel
theorem dX4_decide_23 : decode cX4_decide 23 = .ok (.if_icmp .lt 12, 3) := by decide +kernel
theorem dX4_decide_26 : decode cX4_decide 26 = .ok (.iload 6, 2) := by decide +kernel
theorem dX4_decide_28 : decode cX4_decide 28 = .ok (.aload_n 0, 1) := by decide +kernel
theorem dX4_decide_29 : decode cX4_decide 29 = .ok (.getfield 30, 3) := by decide +kernel
theorem dX4_decide_32 : decode cX4_decide 32 = .ok (.if_icmp .lt 4, 3) := by decide +kernel
theorem dX4_decide_35 : decode cX4_decide 35 = .ok (.return_, 1) := by decide +kernel
theorem dX4_decide_36 : decode cX4_decide 36 = .ok (.iload_n 1, 1) := by decide +kernel
theorem dX4_decide_37 : decode cX4_decide 37 = .ok (.ifCond .gt 16, 3) := by decide +kernel
theorem dX4_decide_40 : decode cX4_decide 40 = .ok (.aload_n 0, 1) := by decide +kernel
theorem dX4_decide_41 : decode cX4_decide 41 = .ok (.iload 6, 2) := by decide +kernel
theorem dX4_decide_43 : decode cX4_decide 43 = .ok (.putfield 30, 3) := by decide +kernel
theorem dX4_decide_46 : decode cX4_decide 46 = .ok (.aload_n 0, 1) := by decide +kernel
theorem dX4_decide_47 : decode cX4_decide 47 = .ok (.lload 4, 2) := by decide +kernel
theorem dX4_decide_49 : decode cX4_decide 49 = .ok (.putfield 33, 3) := by decide +kernel
theorem dX4_decide_52 : decode cX4_decide 52 = .ok (.return_, 1) := by decide +kernel
theorem dX4_decide_53 : decode cX4_decide 53 = .ok (.iload_n 1, 1) := by decide +kernel
theorem dX4_decide_54 : decode cX4_decide 54 = .ok (.iconst 1, 1) := by decide +kernel
theorem dX4_decide_55 : decode cX4_decide 55 = .ok (.isub, 1) := by decide +kernel
theorem dX4_decide_56 : decode cX4_decide 56 = .ok (.istore 7, 2) := by decide +kernel
theorem dX4_decide_58 : decode cX4_decide 58 = .ok (.aload_n 0, 1) := by decide +kernel
theorem dX4_decide_59 : decode cX4_decide 59 = .ok (.iload 7, 2) := by decide +kernel
theorem dX4_decide_61 : decode cX4_decide 61 = .ok (.lload_n 2, 1) := by decide +kernel
theorem dX4_decide_62 : decode cX4_decide 62 = .ok (.aload_n 0, 1) := by decide +kernel
theorem dX4_decide_63 : decode cX4_decide 63 = .ok (.getfield 18, 3) := by decide +kernel
theorem dX4_decide_66 : decode cX4_decide 66 = .ok (.iload 7, 2) := by decide +kernel
theorem dX4_decide_68 : decode cX4_decide 68 = .ok (.laload, 1) := by decide +kernel
theorem dX4_decide_69 : decode cX4_decide 69 = .ok (.ldc2_w 69, 3) := by decide +kernel
theorem dX4_decide_72 : decode cX4_decide 72 = .ok (.lxor, 1) := by decide +kernel
theorem dX4_decide_73 : decode cX4_decide 73 = .ok (.land, 1) := by decide +kernel
theorem dX4_decide_74 : decode cX4_decide 74 = .ok (.lload 4, 2) := by decide +kernel
theorem dX4_decide_76 : decode cX4_decide 76 = .ok (.iload 6, 2) := by decide +kernel
theorem dX4_decide_78 : decode cX4_decide 78 = .ok (.invokestatic 40, 3) := by decide +kernel
theorem dX4_decide_81 : decode cX4_decide 81 = .ok (.lload 4, 2) := by decide +kernel
theorem dX4_decide_83 : decode cX4_decide 83 = .ok (.lconst 1, 1) := by decide +kernel
theorem dX4_decide_84 : decode cX4_decide 84 = .ok (.aload_n 0, 1) := by decide +kernel
theorem dX4_decide_85 : decode cX4_decide 85 = .ok (.getfield 9, 3) := by decide +kernel
theorem dX4_decide_88 : decode cX4_decide 88 = .ok (.iload 7, 2) := by decide +kernel
theorem dX4_decide_90 : decode cX4_decide 90 = .ok (.iaload, 1) := by decide +kernel
theorem dX4_decide_91 : decode cX4_decide 91 = .ok (.lshl, 1) := by decide +kernel
theorem dX4_decide_92 : decode cX4_decide 92 = .ok (.lor, 1) := by decide +kernel
theorem dX4_decide_93 : decode cX4_decide 93 = .ok (.lstore 8, 2) := by decide +kernel
theorem dX4_decide_95 : decode cX4_decide 95 = .ok (.aload_n 0, 1) := by decide +kernel
theorem dX4_decide_96 : decode cX4_decide 96 = .ok (.iload 7, 2) := by decide +kernel
theorem dX4_decide_98 : decode cX4_decide 98 = .ok (.lload_n 2, 1) := by decide +kernel
theorem dX4_decide_99 : decode cX4_decide 99 = .ok (.lload 8, 2) := by decide +kernel
theorem dX4_decide_101 : decode cX4_decide 101 = .ok (.iload 6, 2) := by decide +kernel
theorem dX4_decide_103 : decode cX4_decide 103 = .ok (.aload_n 0, 1) := by decide +kernel
theorem dX4_decide_104 : decode cX4_decide 104 = .ok (.getfield 15, 3) := by decide +kernel
theorem dX4_decide_107 : decode cX4_decide 107 = .ok (.iload 7, 2) := by decide +kernel
theorem dX4_decide_109 : decode cX4_decide 109 = .ok (.iaload, 1) := by decide +kernel
theorem dX4_decide_110 : decode cX4_decide 110 = .ok (.iadd, 1) := by decide +kernel
theorem dX4_decide_111 : decode cX4_decide 111 = .ok (.invokestatic 40, 3) := by decide +kernel
theorem dX4_decide_114 : decode cX4_decide 114 = .ok (.return_, 1) := by decide +kernel
/-! The constructors -/
/-- the cells b to e are new, all else stays -/
def FrC (b e : Nat) (ad : AD) (C : CC) (ad' : AD) (C' : CC) : Prop := (∀ i, i < b ∨ e < i → ad' i = ad i ∧ C' i = C i) ∧ ad' b = ad b
section CI
variable {l : Launch} {g : GG} {ad : AD} {C : CC}
theorem k_X0_init (hj : C 5 = some (.inr (0, [.null, .int 0]))) (n6 : C 6 = none) : Ct l g yX0_init cX0_init 1 none 2 1 40 [.ref (ad 5)] ad C (fun r ad' C' => r = none ∧ FrC 5 6 ad C ad' C' ∧ C' 5 = some (oFi ad' 0) ∧ C' 6 = some (eO g 40 (fun _ => none))) := by
  refine Ct_of [some (.ref (ad 5))] (by decide) rfl rfl (Nat.le_of_ble_eq_true rfl) rfl rfl (fun X hX h => ?_)
  subst hX
  refine j_aload0 (pc := 0) h dX0_init_0 ?_
  refine j_objInit (pc := 1) h dX0_init_1 oi_X0_3 tw_oi tw_oc (by decide) (Nat.le_of_ble_eq_true rfl) ?_
  refine j_aload0 (pc := 4) h dX0_init_4 ?_
  refine j_bipush (pc := 5) h dX0_init_5 bp_40 ?_
  refine j_newO (pc := 7) (j := 6) h dX0_init_7 (n6) tl_X0_9 tw_ao (by decide) (by decide) (by decide) (fun q6 => ?_)
  refine j_putF (pc := 10) (j := 5) h rfl dX0_init_10 (hj) pl_X0_11 rfl rfl rfl (Nat.le_of_ble_eq_true rfl) ?_
  refine j_vret (pc := 13) h dX0_init_13 (⟨rfl, ⟨fun i hi => ⟨by repeat rw [va_up_ne _ _ (by omega)], by repeat rw [va_up_ne _ _ (by omega)]⟩, rfl⟩, rfl, rfl⟩)
theorem k_X3_init (hj : C 7 = some (.inr (3, [.null, .null, .int 0]))) (n8 : C 8 = none) (n9 : C 9 = none) : Ct l g yX3_init cX3_init 1 none 2 2 200 [.ref (ad 7)] ad C (fun r ad' C' => r = none ∧ FrC 7 9 ad C ad' C' ∧ C' 7 = some (oNa ad' 0) ∧ C' 8 = some (eI g 100 (fun _ => 0)) ∧ C' 9 = some (eI g 100 (fun _ => 0))) := by
  refine Ct_of [some (.ref (ad 7))] (by decide) rfl rfl (Nat.le_of_ble_eq_true rfl) rfl rfl (fun X hX h => ?_)
  subst hX
  refine j_aload0 (pc := 0) h dX3_init_0 ?_
  refine j_objInit (pc := 1) h dX3_init_1 oi_X3_3 tw_oi tw_oc (by decide) (Nat.le_of_ble_eq_true rfl) ?_
  refine j_aload0 (pc := 4) h dX3_init_4 ?_
  refine j_bipush (pc := 5) h dX3_init_5 bp_100 ?_
  refine j_newI (pc := 7) (j := 8) h dX3_init_7 (n8) tw_ac_int (by decide) (by decide) (by decide) (fun q8 => ?_)
  refine j_putF (pc := 9) (j := 7) h rfl dX3_init_9 (hj) pl_X3_9 rfl rfl rfl (Nat.le_of_ble_eq_true rfl) ?_
  refine j_aload0 (pc := 12) h dX3_init_12 ?_
  refine j_bipush (pc := 13) h dX3_init_13 bp_100 ?_
  refine j_newI (pc := 15) (j := 9) h dX3_init_15 (n9) tw_ac_int (by decide) (by decide) (by decide) (fun q9 => ?_)
  refine j_putF (pc := 17) (j := 7) h rfl dX3_init_17 (rfl) pl_X3_15 rfl rfl rfl (Nat.le_of_ble_eq_true rfl) ?_
  refine j_vret (pc := 20) h dX3_init_20 (⟨rfl, ⟨fun i hi => ⟨by repeat rw [va_up_ne _ _ (by omega)], by repeat rw [va_up_ne _ _ (by omega)]⟩, rfl⟩, rfl, rfl, rfl⟩)
theorem k_X5_init (hj : C 10 = some (.inr (5, [.null, .null]))) (n11 : C 11 = none) (n12 : C 12 = none) : Ct l g yX5_init cX5_init 1 none 2 2 16 [.ref (ad 10)] ad C (fun r ad' C' => r = none ∧ FrC 10 12 ad C ad' C' ∧ C' 10 = some (oSn ad') ∧ C' 11 = some (eZ g 8 (fun _ => 0)) ∧ C' 12 = some (eJ g 8 (fun _ => 0))) := by
  refine Ct_of [some (.ref (ad 10))] (by decide) rfl rfl (Nat.le_of_ble_eq_true rfl) rfl rfl (fun X hX h => ?_)
  subst hX
  refine j_aload0 (pc := 0) h dX5_init_0 ?_
  refine j_objInit (pc := 1) h dX5_init_1 oi_X5_3 tw_oi tw_oc (by decide) (Nat.le_of_ble_eq_true rfl) ?_
  refine j_aload0 (pc := 4) h dX5_init_4 ?_
  refine j_bipush (pc := 5) h dX5_init_5 bp_8 ?_
  refine j_newZ (pc := 7) (j := 11) h dX5_init_7 (n11) tw_ac_boolean (by decide) (by decide) (by decide) (fun q11 => ?_)
  refine j_putF (pc := 9) (j := 10) h rfl dX5_init_9 (hj) pl_X5_9 rfl rfl rfl (Nat.le_of_ble_eq_true rfl) ?_
  refine j_aload0 (pc := 12) h dX5_init_12 ?_
  refine j_bipush (pc := 13) h dX5_init_13 bp_8 ?_
  refine j_newJ (pc := 15) (j := 12) h dX5_init_15 (n12) tw_ac_long (by decide) (by decide) (by decide) (fun q12 => ?_)
  refine j_putF (pc := 17) (j := 10) h rfl dX5_init_17 (rfl) pl_X5_15 rfl rfl rfl (Nat.le_of_ble_eq_true rfl) ?_
  refine j_vret (pc := 20) h dX5_init_20 (⟨rfl, ⟨fun i hi => ⟨by repeat rw [va_up_ne _ _ (by omega)], by repeat rw [va_up_ne _ _ (by omega)]⟩, rfl⟩, rfl, rfl, rfl⟩)
theorem k_X2_init (hj : C 13 = some (.inr (2, [.null, .null, .int 0]))) (n14 : C 14 = none) (n15 : C 15 = none) : Ct l g yX2_init cX2_init 1 none 2 2 620 [.ref (ad 13)] ad C (fun r ad' C' => r = none ∧ FrC 13 15 ad C ad' C' ∧ C' 13 = some (oMa ad' 0) ∧ C' 14 = some (eI g 20 (fun _ => 0)) ∧ C' 15 = some (eI g 600 (fun _ => 0))) := by
  refine Ct_of [some (.ref (ad 13))] (by decide) rfl rfl (Nat.le_of_ble_eq_true rfl) rfl rfl (fun X hX h => ?_)
  subst hX
  refine j_aload0 (pc := 0) h dX2_init_0 ?_
  refine j_objInit (pc := 1) h dX2_init_1 oi_X2_3 tw_oi tw_oc (by decide) (Nat.le_of_ble_eq_true rfl) ?_
  refine j_aload0 (pc := 4) h dX2_init_4 ?_
  refine j_bipush (pc := 5) h dX2_init_5 bp_20 ?_
  refine j_newI (pc := 7) (j := 14) h dX2_init_7 (n14) tw_ac_int (by decide) (by decide) (by decide) (fun q14 => ?_)
  refine j_putF (pc := 9) (j := 13) h rfl dX2_init_9 (hj) pl_X2_9 rfl rfl rfl (Nat.le_of_ble_eq_true rfl) ?_
  refine j_aload0 (pc := 12) h dX2_init_12 ?_
  refine j_sipush (pc := 13) h dX2_init_13 sp_600 ?_
  refine j_newI (pc := 16) (j := 15) h dX2_init_16 (n15) tw_ac_int (by decide) (by decide) (by decide) (fun q15 => ?_)
  refine j_putF (pc := 18) (j := 13) h rfl dX2_init_18 (rfl) pl_X2_15 rfl rfl rfl (Nat.le_of_ble_eq_true rfl) ?_
  refine j_vret (pc := 21) h dX2_init_21 (⟨rfl, ⟨fun i hi => ⟨by repeat rw [va_up_ne _ _ (by omega)], by repeat rw [va_up_ne _ _ (by omega)]⟩, rfl⟩, rfl, rfl, rfl⟩)
theorem k_X4_init (hj : C 16 = some (.inr (4, [.null, .null, .null, .int 0, .int 0, .int 0, .long 0]))) (n17 : C 17 = none) (n18 : C 18 = none) (n19 : C 19 = none) : Ct l g yX4_init cX4_init 1 none 2 3 36 [.ref (ad 16)] ad C (fun r ad' C' => r = none ∧ FrC 16 19 ad C ad' C' ∧ C' 16 = some (oPl ad' 0 0 0 0) ∧ C' 17 = some (eI g 12 (fun _ => 0)) ∧ C' 18 = some (eI g 12 (fun _ => 0)) ∧ C' 19 = some (eJ g 12 (fun _ => 0))) := by
  refine Ct_of [some (.ref (ad 16))] (by decide) rfl rfl (Nat.le_of_ble_eq_true rfl) rfl rfl (fun X hX h => ?_)
  subst hX
  refine j_aload0 (pc := 0) h dX4_init_0 ?_
  refine j_objInit (pc := 1) h dX4_init_1 oi_X4_3 tw_oi tw_oc (by decide) (Nat.le_of_ble_eq_true rfl) ?_
  refine j_aload0 (pc := 4) h dX4_init_4 ?_
  refine j_bipush (pc := 5) h dX4_init_5 bp_12 ?_
  refine j_newI (pc := 7) (j := 17) h dX4_init_7 (n17) tw_ac_int (by decide) (by decide) (by decide) (fun q17 => ?_)
  refine j_putF (pc := 9) (j := 16) h rfl dX4_init_9 (hj) pl_X4_9 rfl rfl rfl (Nat.le_of_ble_eq_true rfl) ?_
  refine j_aload0 (pc := 12) h dX4_init_12 ?_
  refine j_bipush (pc := 13) h dX4_init_13 bp_12 ?_
  refine j_newI (pc := 15) (j := 18) h dX4_init_15 (n18) tw_ac_int (by decide) (by decide) (by decide) (fun q18 => ?_)
  refine j_putF (pc := 17) (j := 16) h rfl dX4_init_17 (rfl) pl_X4_15 rfl rfl rfl (Nat.le_of_ble_eq_true rfl) ?_
  refine j_aload0 (pc := 20) h dX4_init_20 ?_
  refine j_bipush (pc := 21) h dX4_init_21 bp_12 ?_
  refine j_newJ (pc := 23) (j := 19) h dX4_init_23 (n19) tw_ac_long (by decide) (by decide) (by decide) (fun q19 => ?_)
  refine j_putF (pc := 25) (j := 16) h rfl dX4_init_25 (rfl) pl_X4_18 rfl rfl rfl (Nat.le_of_ble_eq_true rfl) ?_
  refine j_vret (pc := 28) h dX4_init_28 (⟨rfl, ⟨fun i hi => ⟨by repeat rw [va_up_ne _ _ (by omega)], by repeat rw [va_up_ne _ _ (by omega)]⟩, rfl⟩, rfl, rfl, rfl, rfl⟩)
theorem k_X1_init (hj : C 1 = some (.inr (1, [.null, .null, .null, .int 0]))) (n2 : C 2 = none) (n3 : C 3 = none) (n4 : C 4 = none) : Ct l g yX1_init cX1_init 1 none 2 3 90 [.ref (ad 1)] ad C (fun r ad' C' => r = none ∧ FrC 1 4 ad C ad' C' ∧ C' 1 = some (oFo ad' 1) ∧ C' 2 = some (eI g 30 (upd (fun _ => 0) 0 (-1))) ∧ C' 3 = some (eI g 30 (fun _ => 0)) ∧ C' 4 = some (eZ g 30 (fun _ => 0))) := by
  refine Ct_of [some (.ref (ad 1))] (by decide) rfl rfl (Nat.le_of_ble_eq_true rfl) rfl rfl (fun X hX h => ?_)
  subst hX
  refine j_aload0 (pc := 0) h dX1_init_0 ?_
  refine j_objInit (pc := 1) h dX1_init_1 oi_X1_3 tw_oi tw_oc (by decide) (Nat.le_of_ble_eq_true rfl) ?_
  refine j_aload0 (pc := 4) h dX1_init_4 ?_
  refine j_bipush (pc := 5) h dX1_init_5 bp_30 ?_
  refine j_newI (pc := 7) (j := 2) h dX1_init_7 (n2) tw_ac_int (by decide) (by decide) (by decide) (fun q2 => ?_)
  refine j_putF (pc := 9) (j := 1) h rfl dX1_init_9 (hj) pl_X1_9 rfl rfl rfl (Nat.le_of_ble_eq_true rfl) ?_
  refine j_aload0 (pc := 12) h dX1_init_12 ?_
  refine j_bipush (pc := 13) h dX1_init_13 bp_30 ?_
  refine j_newI (pc := 15) (j := 3) h dX1_init_15 (n3) tw_ac_int (by decide) (by decide) (by decide) (fun q3 => ?_)
  refine j_putF (pc := 17) (j := 1) h rfl dX1_init_17 (rfl) pl_X1_15 rfl rfl rfl (Nat.le_of_ble_eq_true rfl) ?_
  refine j_aload0 (pc := 20) h dX1_init_20 ?_
  refine j_bipush (pc := 21) h dX1_init_21 bp_30 ?_
  refine j_newZ (pc := 23) (j := 4) h dX1_init_23 (n4) tw_ac_boolean (by decide) (by decide) (by decide) (fun q4 => ?_)
  refine j_putF (pc := 25) (j := 1) h rfl dX1_init_25 (rfl) pl_X1_18 rfl rfl rfl (Nat.le_of_ble_eq_true rfl) ?_
  refine j_aload0 (pc := 28) h dX1_init_28 ?_
  refine j_getf (pc := 29) (j := 1) h dX1_init_29 (rfl) fl_X1_9 rfl ?_
  refine j_iconst (pc := 32) h dX1_init_32 ic_0 ?_
  refine j_iconst (pc := 33) h dX1_init_33 ic_m1 ?_
  refine j_iast (pc := 34) (j := 2) h dX1_init_34 (rfl) (by omega) (by decide) ?_
  refine j_aload0 (pc := 35) h dX1_init_35 ?_
  refine j_iconst (pc := 36) h dX1_init_36 ic_1 ?_
  refine j_putv (pc := 37) (j := 1) h dX1_init_37 (rfl) pl_X1_22 rfl rfl (Nat.le_of_ble_eq_true rfl) ?_
  refine j_vret (pc := 40) h dX1_init_40 (⟨rfl, ⟨fun i hi => ⟨by repeat rw [va_up_ne _ _ (by omega)], by repeat rw [va_up_ne _ _ (by omega)]⟩, rfl⟩, rfl, rfl, rfl, rfl⟩)
end CI


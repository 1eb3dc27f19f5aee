theorem bc_all : ∀ t, t < 33 → nI t = nI t := fun _ _ => rfl

theorem c_bitC (l : Launch) (E : px_E) (L : List Nat) (f : Nat → va_E) (t : Nat) (ht : t < 33) : px_M l yJ13_bitCount_95d88 wsJ13_bitCount_95d88 (px_rm 0 0) E L f [.long (lN (2 ^ t - 1))] (px_i L (fun z f' => f' = f ∧ z = nI t)) := by
  refine px_M.of (cc := cJ13_bitCount_95d88) (maxL := 2) (ret := (some .int)) (lv := [(0, .long (lN (2 ^ t - 1)))]) (by decide) rfl (Nat.le_of_ble_eq_true rfl) rfl ?_
  intro p e s m below meth c A hC hnm
  obtain ⟨Q, hQ⟩ : ∃ Q, Q = MQ below (px_Q E (px_i L (fun z f' => f' = f ∧ z = nI t)) A) [.long (lN (2 ^ t - 1))].toArray s (px_rm 0 0).cells (px_rm 0 0).slots A := ⟨_, rfl⟩
  rw [← hQ]
  refine px_lload_n hC 0 rfl dJ13_bitCount_95d88_0 ?_
  refine px_lload_n hC 0 rfl dJ13_bitCount_95d88_1 ?_
  refine px_iconst (v := nI 1) hC (by decide) dJ13_bitCount_95d88_2 ?_
  refine px_lushr hC dJ13_bitCount_95d88_3 ?_
  refine px_ldc2 (v := 6148914691236517205) hC dJ13_bitCount_95d88_4 (by decide +kernel) ?_
  refine px_el (y := lN 6148914691236517205) (by decide) ?_
  refine px_land hC dJ13_bitCount_95d88_7 ?_
  refine px_lsub hC dJ13_bitCount_95d88_8 ?_
  refine px_lstore_n (lv' := [(0, .long ((lN (2 ^ t - 1)) - (((lN (2 ^ t - 1)).toUInt64 >>> ((nI 1).toInt64.toUInt64 &&& Int64.toUInt64 63)).toInt64 &&& lN 6148914691236517205)))]) hC [0] dJ13_bitCount_95d88_9 (by decide) rfl ?_
  refine px_lload_n hC 0 rfl dJ13_bitCount_95d88_10 ?_
  refine px_ldc2 (v := 3689348814741910323) hC dJ13_bitCount_95d88_11 (by decide +kernel) ?_
  refine px_el (y := lN 3689348814741910323) (by decide) ?_
  refine px_land hC dJ13_bitCount_95d88_14 ?_
  refine px_lload_n hC 0 rfl dJ13_bitCount_95d88_15 ?_
  refine px_iconst (v := nI 2) hC (by decide) dJ13_bitCount_95d88_16 ?_
  refine px_lushr hC dJ13_bitCount_95d88_17 ?_
  refine px_ldc2 (v := 3689348814741910323) hC dJ13_bitCount_95d88_18 (by decide +kernel) ?_
  refine px_el (y := lN 3689348814741910323) (by decide) ?_
  refine px_land hC dJ13_bitCount_95d88_21 ?_
  refine px_ladd hC dJ13_bitCount_95d88_22 ?_
  refine px_lstore_n (lv' := [(0, .long ((((lN (2 ^ t - 1)) - (((lN (2 ^ t - 1)).toUInt64 >>> ((nI 1).toInt64.toUInt64 &&& Int64.toUInt64 63)).toInt64 &&& lN 6148914691236517205)) &&& lN 3689348814741910323) + ((((lN (2 ^ t - 1)) - (((lN (2 ^ t - 1)).toUInt64 >>> ((nI 1).toInt64.toUInt64 &&& Int64.toUInt64 63)).toInt64 &&& lN 6148914691236517205)).toUInt64 >>> ((nI 2).toInt64.toUInt64 &&& Int64.toUInt64 63)).toInt64 &&& lN 3689348814741910323)))]) hC [0] dJ13_bitCount_95d88_23 (by decide) rfl ?_
  refine px_lload_n hC 0 rfl dJ13_bitCount_95d88_24 ?_
  refine px_lload_n hC 0 rfl dJ13_bitCount_95d88_25 ?_
  refine px_iconst (v := nI 4) hC (by decide) dJ13_bitCount_95d88_26 ?_
  refine px_lushr hC dJ13_bitCount_95d88_27 ?_
  refine px_ladd hC dJ13_bitCount_95d88_28 ?_
  refine px_ldc2 (v := 1085102592571150095) hC dJ13_bitCount_95d88_29 (by decide +kernel) ?_
  refine px_el (y := lN 1085102592571150095) (by decide) ?_
  refine px_land hC dJ13_bitCount_95d88_32 ?_
  refine px_lstore_n (lv' := [(0, .long ((((((lN (2 ^ t - 1)) - (((lN (2 ^ t - 1)).toUInt64 >>> ((nI 1).toInt64.toUInt64 &&& Int64.toUInt64 63)).toInt64 &&& lN 6148914691236517205)) &&& lN 3689348814741910323) + ((((lN (2 ^ t - 1)) - (((lN (2 ^ t - 1)).toUInt64 >>> ((nI 1).toInt64.toUInt64 &&& Int64.toUInt64 63)).toInt64 &&& lN 6148914691236517205)).toUInt64 >>> ((nI 2).toInt64.toUInt64 &&& Int64.toUInt64 63)).toInt64 &&& lN 3689348814741910323)) + (((((lN (2 ^ t - 1)) - (((lN (2 ^ t - 1)).toUInt64 >>> ((nI 1).toInt64.toUInt64 &&& Int64.toUInt64 63)).toInt64 &&& lN 6148914691236517205)) &&& lN 3689348814741910323) + ((((lN (2 ^ t - 1)) - (((lN (2 ^ t - 1)).toUInt64 >>> ((nI 1).toInt64.toUInt64 &&& Int64.toUInt64 63)).toInt64 &&& lN 6148914691236517205)).toUInt64 >>> ((nI 2).toInt64.toUInt64 &&& Int64.toUInt64 63)).toInt64 &&& lN 3689348814741910323)).toUInt64 >>> ((nI 4).toInt64.toUInt64 &&& Int64.toUInt64 63)).toInt64) &&& lN 1085102592571150095))]) hC [0] dJ13_bitCount_95d88_33 (by decide) rfl ?_
  refine px_lload_n hC 0 rfl dJ13_bitCount_95d88_34 ?_
  refine px_lload_n hC 0 rfl dJ13_bitCount_95d88_35 ?_
  refine px_bipush (v := nI 8) hC (by decide) dJ13_bitCount_95d88_36 ?_
  refine px_lushr hC dJ13_bitCount_95d88_38 ?_
  refine px_ladd hC dJ13_bitCount_95d88_39 ?_
  refine px_lstore_n (lv' := [(0, .long (((((((lN (2 ^ t - 1)) - (((lN (2 ^ t - 1)).toUInt64 >>> ((nI 1).toInt64.toUInt64 &&& Int64.toUInt64 63)).toInt64 &&& lN 6148914691236517205)) &&& lN 3689348814741910323) + ((((lN (2 ^ t - 1)) - (((lN (2 ^ t - 1)).toUInt64 >>> ((nI 1).toInt64.toUInt64 &&& Int64.toUInt64 63)).toInt64 &&& lN 6148914691236517205)).toUInt64 >>> ((nI 2).toInt64.toUInt64 &&& Int64.toUInt64 63)).toInt64 &&& lN 3689348814741910323)) + (((((lN (2 ^ t - 1)) - (((lN (2 ^ t - 1)).toUInt64 >>> ((nI 1).toInt64.toUInt64 &&& Int64.toUInt64 63)).toInt64 &&& lN 6148914691236517205)) &&& lN 3689348814741910323) + ((((lN (2 ^ t - 1)) - (((lN (2 ^ t - 1)).toUInt64 >>> ((nI 1).toInt64.toUInt64 &&& Int64.toUInt64 63)).toInt64 &&& lN 6148914691236517205)).toUInt64 >>> ((nI 2).toInt64.toUInt64 &&& Int64.toUInt64 63)).toInt64 &&& lN 3689348814741910323)).toUInt64 >>> ((nI 4).toInt64.toUInt64 &&& Int64.toUInt64 63)).toInt64) &&& lN 1085102592571150095) + (((((((lN (2 ^ t - 1)) - (((lN (2 ^ t - 1)).toUInt64 >>> ((nI 1).toInt64.toUInt64 &&& Int64.toUInt64 63)).toInt64 &&& lN 6148914691236517205)) &&& lN 3689348814741910323) + ((((lN (2 ^ t - 1)) - (((lN (2 ^ t - 1)).toUInt64 >>> ((nI 1).toInt64.toUInt64 &&& Int64.toUInt64 63)).toInt64 &&& lN 6148914691236517205)).toUInt64 >>> ((nI 2).toInt64.toUInt64 &&& Int64.toUInt64 63)).toInt64 &&& lN 3689348814741910323)) + (((((lN (2 ^ t - 1)) - (((lN (2 ^ t - 1)).toUInt64 >>> ((nI 1).toInt64.toUInt64 &&& Int64.toUInt64 63)).toInt64 &&& lN 6148914691236517205)) &&& lN 3689348814741910323) + ((((lN (2 ^ t - 1)) - (((lN (2 ^ t - 1)).toUInt64 >>> ((nI 1).toInt64.toUInt64 &&& Int64.toUInt64 63)).toInt64 &&& lN 6148914691236517205)).toUInt64 >>> ((nI 2).toInt64.toUInt64 &&& Int64.toUInt64 63)).toInt64 &&& lN 3689348814741910323)).toUInt64 >>> ((nI 4).toInt64.toUInt64 &&& Int64.toUInt64 63)).toInt64) &&& lN 1085102592571150095).toUInt64 >>> ((nI 8).toInt64.toUInt64 &&& Int64.toUInt64 63)).toInt64))]) hC [0] dJ13_bitCount_95d88_40 (by decide) rfl ?_
  refine px_lload_n hC 0 rfl dJ13_bitCount_95d88_41 ?_
  refine px_lload_n hC 0 rfl dJ13_bitCount_95d88_42 ?_
  refine px_bipush (v := nI 16) hC (by decide) dJ13_bitCount_95d88_43 ?_
  refine px_lushr hC dJ13_bitCount_95d88_45 ?_
  refine px_ladd hC dJ13_bitCount_95d88_46 ?_
  refine px_lstore_n (lv' := [(0, .long ((((((((lN (2 ^ t - 1)) - (((lN (2 ^ t - 1)).toUInt64 >>> ((nI 1).toInt64.toUInt64 &&& Int64.toUInt64 63)).toInt64 &&& lN 6148914691236517205)) &&& lN 3689348814741910323) + ((((lN (2 ^ t - 1)) - (((lN (2 ^ t - 1)).toUInt64 >>> ((nI 1).toInt64.toUInt64 &&& Int64.toUInt64 63)).toInt64 &&& lN 6148914691236517205)).toUInt64 >>> ((nI 2).toInt64.toUInt64 &&& Int64.toUInt64 63)).toInt64 &&& lN 3689348814741910323)) + (((((lN (2 ^ t - 1)) - (((lN (2 ^ t - 1)).toUInt64 >>> ((nI 1).toInt64.toUInt64 &&& Int64.toUInt64 63)).toInt64 &&& lN 6148914691236517205)) &&& lN 3689348814741910323) + ((((lN (2 ^ t - 1)) - (((lN (2 ^ t - 1)).toUInt64 >>> ((nI 1).toInt64.toUInt64 &&& Int64.toUInt64 63)).toInt64 &&& lN 6148914691236517205)).toUInt64 >>> ((nI 2).toInt64.toUInt64 &&& Int64.toUInt64 63)).toInt64 &&& lN 3689348814741910323)).toUInt64 >>> ((nI 4).toInt64.toUInt64 &&& Int64.toUInt64 63)).toInt64) &&& lN 1085102592571150095) + (((((((lN (2 ^ t - 1)) - (((lN (2 ^ t - 1)).toUInt64 >>> ((nI 1).toInt64.toUInt64 &&& Int64.toUInt64 63)).toInt64 &&& lN 6148914691236517205)) &&& lN 3689348814741910323) + ((((lN (2 ^ t - 1)) - (((lN (2 ^ t - 1)).toUInt64 >>> ((nI 1).toInt64.toUInt64 &&& Int64.toUInt64 63)).toInt64 &&& lN 6148914691236517205)).toUInt64 >>> ((nI 2).toInt64.toUInt64 &&& Int64.toUInt64 63)).toInt64 &&& lN 3689348814741910323)) + (((((lN (2 ^ t - 1)) - (((lN (2 ^ t - 1)).toUInt64 >>> ((nI 1).toInt64.toUInt64 &&& Int64.toUInt64 63)).toInt64 &&& lN 6148914691236517205)) &&& lN 3689348814741910323) + ((((lN (2 ^ t - 1)) - (((lN (2 ^ t - 1)).toUInt64 >>> ((nI 1).toInt64.toUInt64 &&& Int64.toUInt64 63)).toInt64 &&& lN 6148914691236517205)).toUInt64 >>> ((nI 2).toInt64.toUInt64 &&& Int64.toUInt64 63)).toInt64 &&& lN 3689348814741910323)).toUInt64 >>> ((nI 4).toInt64.toUInt64 &&& Int64.toUInt64 63)).toInt64) &&& lN 1085102592571150095).toUInt64 >>> ((nI 8).toInt64.toUInt64 &&& Int64.toUInt64 63)).toInt64) + ((((((((lN (2 ^ t - 1)) - (((lN (2 ^ t - 1)).toUInt64 >>> ((nI 1).toInt64.toUInt64 &&& Int64.toUInt64 63)).toInt64 &&& lN 6148914691236517205)) &&& lN 3689348814741910323) + ((((lN (2 ^ t - 1)) - (((lN (2 ^ t - 1)).toUInt64 >>> ((nI 1).toInt64.toUInt64 &&& Int64.toUInt64 63)).toInt64 &&& lN 6148914691236517205)).toUInt64 >>> ((nI 2).toInt64.toUInt64 &&& Int64.toUInt64 63)).toInt64 &&& lN 3689348814741910323)) + (((((lN (2 ^ t - 1)) - (((lN (2 ^ t - 1)).toUInt64 >>> ((nI 1).toInt64.toUInt64 &&& Int64.toUInt64 63)).toInt64 &&& lN 6148914691236517205)) &&& lN 3689348814741910323) + ((((lN (2 ^ t - 1)) - (((lN (2 ^ t - 1)).toUInt64 >>> ((nI 1).toInt64.toUInt64 &&& Int64.toUInt64 63)).toInt64 &&& lN 6148914691236517205)).toUInt64 >>> ((nI 2).toInt64.toUInt64 &&& Int64.toUInt64 63)).toInt64 &&& lN 3689348814741910323)).toUInt64 >>> ((nI 4).toInt64.toUInt64 &&& Int64.toUInt64 63)).toInt64) &&& lN 1085102592571150095) + (((((((lN (2 ^ t - 1)) - (((lN (2 ^ t - 1)).toUInt64 >>> ((nI 1).toInt64.toUInt64 &&& Int64.toUInt64 63)).toInt64 &&& lN 6148914691236517205)) &&& lN 3689348814741910323) + ((((lN (2 ^ t - 1)) - (((lN (2 ^ t - 1)).toUInt64 >>> ((nI 1).toInt64.toUInt64 &&& Int64.toUInt64 63)).toInt64 &&& lN 6148914691236517205)).toUInt64 >>> ((nI 2).toInt64.toUInt64 &&& Int64.toUInt64 63)).toInt64 &&& lN 3689348814741910323)) + (((((lN (2 ^ t - 1)) - (((lN (2 ^ t - 1)).toUInt64 >>> ((nI 1).toInt64.toUInt64 &&& Int64.toUInt64 63)).toInt64 &&& lN 6148914691236517205)) &&& lN 3689348814741910323) + ((((lN (2 ^ t - 1)) - (((lN (2 ^ t - 1)).toUInt64 >>> ((nI 1).toInt64.toUInt64 &&& Int64.toUInt64 63)).toInt64 &&& lN 6148914691236517205)).toUInt64 >>> ((nI 2).toInt64.toUInt64 &&& Int64.toUInt64 63)).toInt64 &&& lN 3689348814741910323)).toUInt64 >>> ((nI 4).toInt64.toUInt64 &&& Int64.toUInt64 63)).toInt64) &&& lN 1085102592571150095).toUInt64 >>> ((nI 8).toInt64.toUInt64 &&& Int64.toUInt64 63)).toInt64).toUInt64 >>> ((nI 16).toInt64.toUInt64 &&& Int64.toUInt64 63)).toInt64))]) hC [0] dJ13_bitCount_95d88_47 (by decide) rfl ?_
  refine px_lload_n hC 0 rfl dJ13_bitCount_95d88_48 ?_
  refine px_lload_n hC 0 rfl dJ13_bitCount_95d88_49 ?_
  refine px_bipush (v := nI 32) hC (by decide) dJ13_bitCount_95d88_50 ?_
  refine px_lushr hC dJ13_bitCount_95d88_52 ?_
  refine px_ladd hC dJ13_bitCount_95d88_53 ?_
  refine px_lstore_n (lv' := [(0, .long (((((((((lN (2 ^ t - 1)) - (((lN (2 ^ t - 1)).toUInt64 >>> ((nI 1).toInt64.toUInt64 &&& Int64.toUInt64 63)).toInt64 &&& lN 6148914691236517205)) &&& lN 3689348814741910323) + ((((lN (2 ^ t - 1)) - (((lN (2 ^ t - 1)).toUInt64 >>> ((nI 1).toInt64.toUInt64 &&& Int64.toUInt64 63)).toInt64 &&& lN 6148914691236517205)).toUInt64 >>> ((nI 2).toInt64.toUInt64 &&& Int64.toUInt64 63)).toInt64 &&& lN 3689348814741910323)) + (((((lN (2 ^ t - 1)) - (((lN (2 ^ t - 1)).toUInt64 >>> ((nI 1).toInt64.toUInt64 &&& Int64.toUInt64 63)).toInt64 &&& lN 6148914691236517205)) &&& lN 3689348814741910323) + ((((lN (2 ^ t - 1)) - (((lN (2 ^ t - 1)).toUInt64 >>> ((nI 1).toInt64.toUInt64 &&& Int64.toUInt64 63)).toInt64 &&& lN 6148914691236517205)).toUInt64 >>> ((nI 2).toInt64.toUInt64 &&& Int64.toUInt64 63)).toInt64 &&& lN 3689348814741910323)).toUInt64 >>> ((nI 4).toInt64.toUInt64 &&& Int64.toUInt64 63)).toInt64) &&& lN 1085102592571150095) + (((((((lN (2 ^ t - 1)) - (((lN (2 ^ t - 1)).toUInt64 >>> ((nI 1).toInt64.toUInt64 &&& Int64.toUInt64 63)).toInt64 &&& lN 6148914691236517205)) &&& lN 3689348814741910323) + ((((lN (2 ^ t - 1)) - (((lN (2 ^ t - 1)).toUInt64 >>> ((nI 1).toInt64.toUInt64 &&& Int64.toUInt64 63)).toInt64 &&& lN 6148914691236517205)).toUInt64 >>> ((nI 2).toInt64.toUInt64 &&& Int64.toUInt64 63)).toInt64 &&& lN 3689348814741910323)) + (((((lN (2 ^ t - 1)) - (((lN (2 ^ t - 1)).toUInt64 >>> ((nI 1).toInt64.toUInt64 &&& Int64.toUInt64 63)).toInt64 &&& lN 6148914691236517205)) &&& lN 3689348814741910323) + ((((lN (2 ^ t - 1)) - (((lN (2 ^ t - 1)).toUInt64 >>> ((nI 1).toInt64.toUInt64 &&& Int64.toUInt64 63)).toInt64 &&& lN 6148914691236517205)).toUInt64 >>> ((nI 2).toInt64.toUInt64 &&& Int64.toUInt64 63)).toInt64 &&& lN 3689348814741910323)).toUInt64 >>> ((nI 4).toInt64.toUInt64 &&& Int64.toUInt64 63)).toInt64) &&& lN 1085102592571150095).toUInt64 >>> ((nI 8).toInt64.toUInt64 &&& Int64.toUInt64 63)).toInt64) + ((((((((lN (2 ^ t - 1)) - (((lN (2 ^ t - 1)).toUInt64 >>> ((nI 1).toInt64.toUInt64 &&& Int64.toUInt64 63)).toInt64 &&& lN 6148914691236517205)) &&& lN 3689348814741910323) + ((((lN (2 ^ t - 1)) - (((lN (2 ^ t - 1)).toUInt64 >>> ((nI 1).toInt64.toUInt64 &&& Int64.toUInt64 63)).toInt64 &&& lN 6148914691236517205)).toUInt64 >>> ((nI 2).toInt64.toUInt64 &&& Int64.toUInt64 63)).toInt64 &&& lN 3689348814741910323)) + (((((lN (2 ^ t - 1)) - (((lN (2 ^ t - 1)).toUInt64 >>> ((nI 1).toInt64.toUInt64 &&& Int64.toUInt64 63)).toInt64 &&& lN 6148914691236517205)) &&& lN 3689348814741910323) + ((((lN (2 ^ t - 1)) - (((lN (2 ^ t - 1)).toUInt64 >>> ((nI 1).toInt64.toUInt64 &&& Int64.toUInt64 63)).toInt64 &&& lN 6148914691236517205)).toUInt64 >>> ((nI 2).toInt64.toUInt64 &&& Int64.toUInt64 63)).toInt64 &&& lN 3689348814741910323)).toUInt64 >>> ((nI 4).toInt64.toUInt64 &&& Int64.toUInt64 63)).toInt64) &&& lN 1085102592571150095) + (((((((lN (2 ^ t - 1)) - (((lN (2 ^ t - 1)).toUInt64 >>> ((nI 1).toInt64.toUInt64 &&& Int64.toUInt64 63)).toInt64 &&& lN 6148914691236517205)) &&& lN 3689348814741910323) + ((((lN (2 ^ t - 1)) - (((lN (2 ^ t - 1)).toUInt64 >>> ((nI 1).toInt64.toUInt64 &&& Int64.toUInt64 63)).toInt64 &&& lN 6148914691236517205)).toUInt64 >>> ((nI 2).toInt64.toUInt64 &&& Int64.toUInt64 63)).toInt64 &&& lN 3689348814741910323)) + (((((lN (2 ^ t - 1)) - (((lN (2 ^ t - 1)).toUInt64 >>> ((nI 1).toInt64.toUInt64 &&& Int64.toUInt64 63)).toInt64 &&& lN 6148914691236517205)) &&& lN 3689348814741910323) + ((((lN (2 ^ t - 1)) - (((lN (2 ^ t - 1)).toUInt64 >>> ((nI 1).toInt64.toUInt64 &&& Int64.toUInt64 63)).toInt64 &&& lN 6148914691236517205)).toUInt64 >>> ((nI 2).toInt64.toUInt64 &&& Int64.toUInt64 63)).toInt64 &&& lN 3689348814741910323)).toUInt64 >>> ((nI 4).toInt64.toUInt64 &&& Int64.toUInt64 63)).toInt64) &&& lN 1085102592571150095).toUInt64 >>> ((nI 8).toInt64.toUInt64 &&& Int64.toUInt64 63)).toInt64).toUInt64 >>> ((nI 16).toInt64.toUInt64 &&& Int64.toUInt64 63)).toInt64) + (((((((((lN (2 ^ t - 1)) - (((lN (2 ^ t - 1)).toUInt64 >>> ((nI 1).toInt64.toUInt64 &&& Int64.toUInt64 63)).toInt64 &&& lN 6148914691236517205)) &&& lN 3689348814741910323) + ((((lN (2 ^ t - 1)) - (((lN (2 ^ t - 1)).toUInt64 >>> ((nI 1).toInt64.toUInt64 &&& Int64.toUInt64 63)).toInt64 &&& lN 6148914691236517205)).toUInt64 >>> ((nI 2).toInt64.toUInt64 &&& Int64.toUInt64 63)).toInt64 &&& lN 3689348814741910323)) + (((((lN (2 ^ t - 1)) - (((lN (2 ^ t - 1)).toUInt64 >>> ((nI 1).toInt64.toUInt64 &&& Int64.toUInt64 63)).toInt64 &&& lN 6148914691236517205)) &&& lN 3689348814741910323) + ((((lN (2 ^ t - 1)) - (((lN (2 ^ t - 1)).toUInt64 >>> ((nI 1).toInt64.toUInt64 &&& Int64.toUInt64 63)).toInt64 &&& lN 6148914691236517205)).toUInt64 >>> ((nI 2).toInt64.toUInt64 &&& Int64.toUInt64 63)).toInt64 &&& lN 3689348814741910323)).toUInt64 >>> ((nI 4).toInt64.toUInt64 &&& Int64.toUInt64 63)).toInt64) &&& lN 1085102592571150095) + (((((((lN (2 ^ t - 1)) - (((lN (2 ^ t - 1)).toUInt64 >>> ((nI 1).toInt64.toUInt64 &&& Int64.toUInt64 63)).toInt64 &&& lN 6148914691236517205)) &&& lN 3689348814741910323) + ((((lN (2 ^ t - 1)) - (((lN (2 ^ t - 1)).toUInt64 >>> ((nI 1).toInt64.toUInt64 &&& Int64.toUInt64 63)).toInt64 &&& lN 6148914691236517205)).toUInt64 >>> ((nI 2).toInt64.toUInt64 &&& Int64.toUInt64 63)).toInt64 &&& lN 3689348814741910323)) + (((((lN (2 ^ t - 1)) - (((lN (2 ^ t - 1)).toUInt64 >>> ((nI 1).toInt64.toUInt64 &&& Int64.toUInt64 63)).toInt64 &&& lN 6148914691236517205)) &&& lN 3689348814741910323) + ((((lN (2 ^ t - 1)) - (((lN (2 ^ t - 1)).toUInt64 >>> ((nI 1).toInt64.toUInt64 &&& Int64.toUInt64 63)).toInt64 &&& lN 6148914691236517205)).toUInt64 >>> ((nI 2).toInt64.toUInt64 &&& Int64.toUInt64 63)).toInt64 &&& lN 3689348814741910323)).toUInt64 >>> ((nI 4).toInt64.toUInt64 &&& Int64.toUInt64 63)).toInt64) &&& lN 1085102592571150095).toUInt64 >>> ((nI 8).toInt64.toUInt64 &&& Int64.toUInt64 63)).toInt64) + ((((((((lN (2 ^ t - 1)) - (((lN (2 ^ t - 1)).toUInt64 >>> ((nI 1).toInt64.toUInt64 &&& Int64.toUInt64 63)).toInt64 &&& lN 6148914691236517205)) &&& lN 3689348814741910323) + ((((lN (2 ^ t - 1)) - (((lN (2 ^ t - 1)).toUInt64 >>> ((nI 1).toInt64.toUInt64 &&& Int64.toUInt64 63)).toInt64 &&& lN 6148914691236517205)).toUInt64 >>> ((nI 2).toInt64.toUInt64 &&& Int64.toUInt64 63)).toInt64 &&& lN 3689348814741910323)) + (((((lN (2 ^ t - 1)) - (((lN (2 ^ t - 1)).toUInt64 >>> ((nI 1).toInt64.toUInt64 &&& Int64.toUInt64 63)).toInt64 &&& lN 6148914691236517205)) &&& lN 3689348814741910323) + ((((lN (2 ^ t - 1)) - (((lN (2 ^ t - 1)).toUInt64 >>> ((nI 1).toInt64.toUInt64 &&& Int64.toUInt64 63)).toInt64 &&& lN 6148914691236517205)).toUInt64 >>> ((nI 2).toInt64.toUInt64 &&& Int64.toUInt64 63)).toInt64 &&& lN 3689348814741910323)).toUInt64 >>> ((nI 4).toInt64.toUInt64 &&& Int64.toUInt64 63)).toInt64) &&& lN 1085102592571150095) + (((((((lN (2 ^ t - 1)) - (((lN (2 ^ t - 1)).toUInt64 >>> ((nI 1).toInt64.toUInt64 &&& Int64.toUInt64 63)).toInt64 &&& lN 6148914691236517205)) &&& lN 3689348814741910323) + ((((lN (2 ^ t - 1)) - (((lN (2 ^ t - 1)).toUInt64 >>> ((nI 1).toInt64.toUInt64 &&& Int64.toUInt64 63)).toInt64 &&& lN 6148914691236517205)).toUInt64 >>> ((nI 2).toInt64.toUInt64 &&& Int64.toUInt64 63)).toInt64 &&& lN 3689348814741910323)) + (((((lN (2 ^ t - 1)) - (((lN (2 ^ t - 1)).toUInt64 >>> ((nI 1).toInt64.toUInt64 &&& Int64.toUInt64 63)).toInt64 &&& lN 6148914691236517205)) &&& lN 3689348814741910323) + ((((lN (2 ^ t - 1)) - (((lN (2 ^ t - 1)).toUInt64 >>> ((nI 1).toInt64.toUInt64 &&& Int64.toUInt64 63)).toInt64 &&& lN 6148914691236517205)).toUInt64 >>> ((nI 2).toInt64.toUInt64 &&& Int64.toUInt64 63)).toInt64 &&& lN 3689348814741910323)).toUInt64 >>> ((nI 4).toInt64.toUInt64 &&& Int64.toUInt64 63)).toInt64) &&& lN 1085102592571150095).toUInt64 >>> ((nI 8).toInt64.toUInt64 &&& Int64.toUInt64 63)).toInt64).toUInt64 >>> ((nI 16).toInt64.toUInt64 &&& Int64.toUInt64 63)).toInt64).toUInt64 >>> ((nI 32).toInt64.toUInt64 &&& Int64.toUInt64 63)).toInt64))]) hC [0] dJ13_bitCount_95d88_54 (by decide) rfl ?_
  refine px_lload_n hC 0 rfl dJ13_bitCount_95d88_55 ?_
  refine px_l2i hC dJ13_bitCount_95d88_56 ?_
  refine px_bipush (v := nI 127) hC (by decide) dJ13_bitCount_95d88_57 ?_
  refine px_iand hC dJ13_bitCount_95d88_59 ?_
  subst hQ
  exact px_iret hC rfl (⟨_, rfl, rfl, rfl, by clear hC; revert t; decide +kernel⟩) dJ13_bitCount_95d88_60
theorem c_trailZ (l : Launch) (E : px_E) (L : List Nat) (f : Nat → va_E) (a : Nat) (x : Nat → Nat) (hf : px_at L f a (aJ E 21 (lw x))) (hx : dg x) : px_M l yX1_trailingZeros wsX1_trailingZeros (px_rm 1 21) E L f [.ref a] (px_i L (fun z f' => f' = f ∧ ∃ t, z = nI t ∧ ((vl 4294967296 x 21 = 0 ∧ t = 672) ∨ (t < 672 ∧ ∃ o, vl 4294967296 x 21 = 2 ^ t * (2 * o + 1))))) := by
  refine px_M.of (cc := cX1_trailingZeros) (maxL := 2) (ret := (some .int)) (lv := [(0, .ref a)]) (by decide) rfl (Nat.le_of_ble_eq_true rfl) rfl ?_
  intro p e s m below meth c A hC hnm
  obtain ⟨Q, hQ⟩ : ∃ Q, Q = MQ below (px_Q E (px_i L (fun z f' => f' = f ∧ ∃ t, z = nI t ∧ ((vl 4294967296 x 21 = 0 ∧ t = 672) ∨ (t < 672 ∧ ∃ o, vl 4294967296 x 21 = 2 ^ t * (2 * o + 1))))) A) [.ref a].toArray s (px_rm 1 21).cells (px_rm 1 21).slots A := ⟨_, rfl⟩
  rw [← hQ]
  have loop : ∀ (d i : Nat), i + d = 21 → vl 4294967296 x i = 0 → px p l e (px_rm 1 21) s m [.ref a].toArray below meth c 2 E A s.heap L (f) 0 0 Q 2 [(0, .ref a), (1, .int (nI i))] [] := by
    intro d
    induction d with
    | zero =>
      intro i hi h0
      refine px_iload_n hC 1 rfl dX1_trailingZeros_2 ?_
      refine px_bipush (v := nI 21) hC (by decide) dX1_trailingZeros_3 ?_
      refine px_icmp_ge hC 44 dX1_trailingZeros_5 (by decide) (fun _ => ?_) (fun q9 => (q9 (nI_le (by omega) (by omega))).elim)
      refine px_sipush (v := nI 672) hC (by decide) dX1_trailingZeros_44 ?_
      subst hQ
      exact px_iret hC rfl (⟨_, rfl, rfl, rfl, 672, rfl, Or.inl ⟨by rw [show 21 = i by omega]; exact h0, rfl⟩⟩) dX1_trailingZeros_47
    | succ d ih =>
      intro i hi h0
      have hb := hx i (by omega)
      refine px_iload_n hC 1 rfl dX1_trailingZeros_2 ?_
      refine px_bipush (v := nI 21) hC (by decide) dX1_trailingZeros_3 ?_
      refine px_icmp_ge hC 44 dX1_trailingZeros_5 (by decide) (fun q9 => ((nI_ge (by omega) (by omega)) q9).elim) (fun _ => ?_)
      refine px_aload_n hC 0 rfl dX1_trailingZeros_8 ?_
      refine px_iload_n hC 1 rfl dX1_trailingZeros_9 ?_
      refine px_lald hC hf (by omega) (by first | decide | assumption | omega) dX1_trailingZeros_10 ?_
      refine px_lconst (v := lN 0) hC (by decide) dX1_trailingZeros_11 ?_
      refine px_lcmp hC dX1_trailingZeros_12 ?_
      by_cases h : x i = 0
      · refine px_if_eq hC 38 dX1_trailingZeros_13 (by decide) (fun _ => ?_) (fun q9 => (q9 ((lz_c0 (by omega) (by omega)).mpr h)).elim)
        refine px_iinc (v := nI (i + 1)) (lv' := [(0, .ref a), (1, .int (nI (i + 1)))]) hC 1 [1, 0] dX1_trailingZeros_38 rfl (nI_1 i) (by decide) rfl ?_
        refine px_goto hC 2 dX1_trailingZeros_41 (by decide) ?_
        exact ih (i + 1) (by omega) (by show vl 4294967296 x i + x i * 4294967296 ^ i = 0; rw [h0, h]; omega)
      · obtain ⟨t, o, ho⟩ := od_of _ h
        have ht : t < 32 := od_lt ho hb
        refine px_if_eq hC 38 dX1_trailingZeros_13 (by decide) (fun q9 => ((fun q => h ((lz_c0 (by omega) (by omega)).mp q)) q9).elim) (fun _ => ?_)
        refine px_iload_n hC 1 rfl dX1_trailingZeros_16 ?_
        refine px_bipush (v := nI 32) hC (by decide) dX1_trailingZeros_17 ?_
        refine px_imul hC dX1_trailingZeros_19 ?_
        refine px_aload_n hC 0 rfl dX1_trailingZeros_20 ?_
        refine px_iload_n hC 1 rfl dX1_trailingZeros_21 ?_
        refine px_lald hC hf (by omega) (by first | decide | assumption | omega) dX1_trailingZeros_22 ?_
        refine px_ldc2 (v := (-1)) hC dX1_trailingZeros_23 (by decide +kernel) ?_
        refine px_lxor hC dX1_trailingZeros_26 ?_
        refine px_aload_n hC 0 rfl dX1_trailingZeros_27 ?_
        refine px_iload_n hC 1 rfl dX1_trailingZeros_28 ?_
        refine px_lald hC hf (by omega) (by first | decide | assumption | omega) dX1_trailingZeros_29 ?_
        refine px_lconst (v := lN 1) hC (by decide) dX1_trailingZeros_30 ?_
        refine px_lsub hC dX1_trailingZeros_31 ?_
        refine px_land hC dX1_trailingZeros_32 ?_
        refine px_el (y := lN (2 ^ t - 1)) (tz_bits ho hb) ?_
        refine px_callSi (st := [.int ((nI i) * nI 32)]) (nn := 1) hC (c_bitC l E L f t (by omega)) gX1_trailingZeros_J13_bitCount_95d88 rfl (by decide +kernel) (by decide) (Nat.le_of_ble_eq_true rfl) (by decide) rfl rfl dX1_trailingZeros_33 (fun z f1 hz => ?_)
        obtain ⟨rfl, rfl⟩ := hz
        refine px_iadd hC dX1_trailingZeros_36 ?_
        refine px_ei (y := nI (i * 32 + t)) (by rw [pk_mul, nI_add]) ?_
        subst hQ
        exact px_iret hC rfl (⟨_, rfl, rfl, rfl, _, rfl, Or.inr (tz_val h0 (by omega) ho hb)⟩) dX1_trailingZeros_37
  refine px_iconst (v := nI 0) hC (by decide) dX1_trailingZeros_0 ?_
  refine px_istore_n (lv' := [(0, .ref a), (1, .int (nI 0))]) hC [1, 0] dX1_trailingZeros_1 (by decide) rfl ?_
  exact loop 21 0 (by omega) rfl
theorem c_shr (l : Launch) (E : px_E) (L : List Nat) (f : Nat → va_E) (a bits w : Nat) (x : Nat → Nat) (hf : px_at L f a (aJ E 21 (lw x))) (hx : dg x) (hw : w ≤ 21) (hb : bits < 2 ^ 30) : px_M l yX1_shiftRight wsX1_shiftRight (px_rm 1 22) E L f [.ref a, .int (nI bits), .int (nI w)] (px_v L (fun f' => ∃ y, dg y ∧ (∀ i, w ≤ i → y i = x i) ∧ vl 4294967296 y w = vl 4294967296 x w / 2 ^ bits ∧ f' = va_up f a (aJ E 21 (lw y)))) := by
  refine px_M.of (cc := cX1_shiftRight) (maxL := 10) (ret := none) (lv := [(0, .ref a), (1, .int (nI bits)), (2, .int (nI w))]) (by decide) rfl (Nat.le_of_ble_eq_true rfl) rfl ?_
  intro p e s m below meth c A hC hnm
  obtain ⟨Q, hQ⟩ : ∃ Q, Q = MQ below (px_Q E (px_v L (fun f' => ∃ y, dg y ∧ (∀ i, w ≤ i → y i = x i) ∧ vl 4294967296 y w = vl 4294967296 x w / 2 ^ bits ∧ f' = va_up f a (aJ E 21 (lw y)))) A) [.ref a, .int (nI bits), .int (nI w)].toArray s (px_rm 1 22).cells (px_rm 1 22).slots A := ⟨_, rfl⟩
  rw [← hQ]
  have loop : ∀ (d i : Nat) (y : Nat → Nat), i + d = w → dg y → (∀ j, i ≤ j → y j = x j) → (∀ j, j < i → y j = ((if j + bits / 32 + 1 < w then x (j + bits / 32 + 1) else 0) * 4294967296 + (if j + bits / 32 < w then x (j + bits / 32) else 0)) / 2 ^ (bits % 32) % 4294967296) → px p l e (px_rm 1 22) s m [.ref a, .int (nI bits), .int (nI w)].toArray below meth c 10 E A s.heap L (va_up f a (aJ E 21 (lw y))) 0 0 Q 19 [(0, .ref a), (1, .int (nI bits)), (2, .int (nI w)), (3, .int (nI (bits / 32))), (4, .int (nI (bits % 32))), (5, .int (nI i))] [] := by
    intro d
    induction d with
    | zero =>
      intro i y hi hy hk hs
      refine px_iload hC 5 rfl dX1_shiftRight_19 ?_
      refine px_iload_n hC 2 rfl dX1_shiftRight_21 ?_
      refine px_icmp_ge hC 74 dX1_shiftRight_22 (by decide) (fun _ => ?_) (fun q9 => (q9 (nI_le (by omega) (by omega))).elim)
      subst hQ
      exact px_vret hC rfl (⟨rfl, rfl, y, hy, fun j hj => hk j (by omega), sh_row (q := bits / 32) (part := bits % 32) (fun j hj => hx j (by omega)) (by omega) (by omega) (fun j hj => hs j (by omega)), rfl⟩) dX1_shiftRight_74
    | succ d ih =>
      intro i y hi hy hk hs
      have hlo : (if i + bits / 32 < w then y (i + bits / 32) else 0) < 4294967296 := by
        by_cases q : i + bits / 32 < w
        · rw [if_pos q]; exact hy _ (by omega)
        · rw [if_neg q]; decide
      have hhi : (if i + bits / 32 + 1 < w then y (i + bits / 32 + 1) else 0) < 4294967296 := by
        by_cases q : i + bits / 32 + 1 < w
        · rw [if_pos q]; exact hy _ (by omega)
        · rw [if_neg q]; decide
      have elo : (if i + bits / 32 < w then y (i + bits / 32) else 0) = (if i + bits / 32 < w then x (i + bits / 32) else 0) := by rw [hk _ (by omega)]
      have ehi : (if i + bits / 32 + 1 < w then y (i + bits / 32 + 1) else 0) = (if i + bits / 32 + 1 < w then x (i + bits / 32 + 1) else 0) := by rw [hk _ (by omega)]
      refine px_iload hC 5 rfl dX1_shiftRight_19 ?_
      refine px_iload_n hC 2 rfl dX1_shiftRight_21 ?_
      refine px_icmp_ge hC 74 dX1_shiftRight_22 (by decide) (fun q9 => ((nI_ge (by omega) (by omega)) q9).elim) (fun _ => ?_)
      refine px_aload_n hC 0 rfl dX1_shiftRight_25 ?_
      refine px_iload hC 5 rfl dX1_shiftRight_26 ?_
      refine px_iload_n hC 3 rfl dX1_shiftRight_28 ?_
      refine px_iadd hC dX1_shiftRight_29 ?_
      refine px_ei (y := nI (i + bits / 32)) (nI_add _ _) ?_
      refine px_iload_n hC 2 rfl dX1_shiftRight_30 ?_
      refine px_callSl (st := []) (nn := 3) hC (c_limbAt l E L _ a (i + bits / 32) w y hf.self hw (by omega)) gX1_shiftRight_X1_limbAt rfl (by decide +kernel) (by decide) (Nat.le_of_ble_eq_true rfl) (by decide) rfl rfl dX1_shiftRight_31 (fun z1 f1 hz1 => ?_)
      obtain ⟨rfl, rfl⟩ := hz1
      refine px_lstore (lv' := [(0, .ref a), (1, .int (nI bits)), (2, .int (nI w)), (3, .int (nI (bits / 32))), (4, .int (nI (bits % 32))), (5, .int (nI i)), (6, .long (lN (if i + bits / 32 < w then y (i + bits / 32) else 0)))]) hC [1, 2, 3, 4, 5, 6, 0] dX1_shiftRight_34 (by decide) rfl ?_
      refine px_aload_n hC 0 rfl dX1_shiftRight_36 ?_
      refine px_iload hC 5 rfl dX1_shiftRight_37 ?_
      refine px_iload_n hC 3 rfl dX1_shiftRight_39 ?_
      refine px_iadd hC dX1_shiftRight_40 ?_
      refine px_ei (y := nI (i + bits / 32)) (nI_add _ _) ?_
      refine px_iconst (v := nI 1) hC (by decide) dX1_shiftRight_41 ?_
      refine px_iadd hC dX1_shiftRight_42 ?_
      refine px_ei (y := nI (i + bits / 32 + 1)) (nI_add _ _) ?_
      refine px_iload_n hC 2 rfl dX1_shiftRight_43 ?_
      refine px_callSl (st := []) (nn := 3) hC (c_limbAt l E L _ a (i + bits / 32 + 1) w y hf.self hw (by omega)) gX1_shiftRight_X1_limbAt rfl (by decide +kernel) (by decide) (Nat.le_of_ble_eq_true rfl) (by decide) rfl rfl dX1_shiftRight_44 (fun z2 f2 hz2 => ?_)
      obtain ⟨rfl, rfl⟩ := hz2
      generalize (if i + bits / 32 < w then y (i + bits / 32) else 0) = lo at hlo elo ⊢
      generalize (if i + bits / 32 + 1 < w then y (i + bits / 32 + 1) else 0) = hi1 at hhi ehi ⊢
      refine px_lstore (lv' := [(0, .ref a), (1, .int (nI bits)), (2, .int (nI w)), (3, .int (nI (bits / 32))), (4, .int (nI (bits % 32))), (5, .int (nI i)), (6, .long (lN lo)), (8, .long (lN hi1))]) hC [1, 2, 3, 4, 5, 6, 7, 0] dX1_shiftRight_47 (by decide) rfl ?_
      refine px_aload_n hC 0 rfl dX1_shiftRight_49 ?_
      refine px_iload hC 5 rfl dX1_shiftRight_50 ?_
      refine px_lload hC 7 rfl dX1_shiftRight_52 ?_
      refine px_bipush (v := nI 32) hC (by decide) dX1_shiftRight_54 ?_
      refine px_lshl hC dX1_shiftRight_56 ?_
      refine px_el (y := lN (hi1 * 2 ^ 32)) (wb_shl hi1 (by decide)) ?_
      refine px_lload hC 6 rfl dX1_shiftRight_57 ?_
      refine px_lor hC dX1_shiftRight_59 ?_
      refine px_el (y := lN (hi1 * 4294967296 + lo)) (g_or (k := 32) rfl hlo (by omega)) ?_
      refine px_iload hC 4 rfl dX1_shiftRight_60 ?_
      refine px_lushr hC dX1_shiftRight_62 ?_
      refine px_el (y := lN ((hi1 * 4294967296 + lo) / 2 ^ (bits % 32))) (wb_shr (by omega) (by omega)) ?_
      refine px_ldc2 (v := 4294967295) hC dX1_shiftRight_63 (by decide +kernel) ?_
      refine px_el (y := lN 4294967295) (by decide) ?_
      refine px_land hC dX1_shiftRight_66 ?_
      refine px_el (y := lN ((hi1 * 4294967296 + lo) / 2 ^ (bits % 32) % 4294967296)) (wb_mask (k := 32) (Nat.lt_of_le_of_lt (Nat.div_le_self _ _) (by omega)) (by decide)) ?_
      refine px_last hC hf.self (by omega) (by first | decide | assumption | omega) dX1_shiftRight_67 ?_
      rw [px_uu, lw_up]
      refine px_iinc (v := nI (i + 1)) (lv' := [(0, .ref a), (1, .int (nI bits)), (2, .int (nI w)), (3, .int (nI (bits / 32))), (4, .int (nI (bits % 32))), (5, .int (nI (i + 1))), (6, .long (lN lo)), (8, .long (lN hi1))]) hC 5 [1, 2, 3, 4, 5, 0, 6, 7] dX1_shiftRight_68 rfl (nI_1 i) (by decide) rfl ?_
      refine px_goto hC 19 dX1_shiftRight_71 (by decide) ?_
      refine px_lv (lv2 := [(0, .ref a), (1, .int (nI bits)), (2, .int (nI w)), (3, .int (nI (bits / 32))), (4, .int (nI (bits % 32))), (5, .int (nI (i + 1)))]) [0, 1, 2, 3, 4, 5] rfl ?_
      refine ih (i + 1) _ (by omega) (dg_un hy (Nat.mod_lt _ (by decide))) (fun j hj => ?_) (fun j hj => ?_)
      · rw [un_n _ _ (by omega)]; exact hk j (by omega)
      · by_cases q : j = i
        · subst q; rw [un_s, elo, ehi]
        · rw [un_n _ _ q]; exact hs j (by omega)
  refine px_iload_n hC 1 rfl dX1_shiftRight_0 ?_
  by_cases h : bits = 0
  · subst h
    refine px_if_gt hC 5 dX1_shiftRight_1 (by decide) (fun q9 => ((nI_nlt (Nat.le_refl 0) (by decide)) q9).elim) (fun _ => ?_)
    rw [show f = va_up f a (aJ E 21 (lw x)) from (px_us hf.2).symm] 
    subst hQ
    exact px_vret hC rfl (⟨rfl, rfl, x, hx, fun _ _ => rfl, by rw [Nat.pow_zero, Nat.div_one], rfl⟩) dX1_shiftRight_4
  · refine px_if_gt hC 5 dX1_shiftRight_1 (by decide) (fun _ => ?_) (fun q9 => (q9 (nI_lt (a := 0) (by omega) (by omega))).elim)
    refine px_iload_n hC 1 rfl dX1_shiftRight_5 ?_
    refine px_bipush (v := nI 32) hC (by decide) dX1_shiftRight_6 ?_
    refine px_idiv hC (by decide) dX1_shiftRight_8 ?_
    refine px_ei (y := nI (bits / 32)) (pk_div (by omega) (by decide) (by decide)) ?_
    refine px_istore_n (lv' := [(0, .ref a), (1, .int (nI bits)), (2, .int (nI w)), (3, .int (nI (bits / 32)))]) hC [1, 2, 3, 0] dX1_shiftRight_9 (by decide) rfl ?_
    refine px_iload_n hC 1 rfl dX1_shiftRight_10 ?_
    refine px_bipush (v := nI 32) hC (by decide) dX1_shiftRight_11 ?_
    refine px_irem hC (by decide) dX1_shiftRight_13 ?_
    refine px_ei (y := nI (bits % 32)) (pk_rem (by omega) (by decide) (by decide)) ?_
    refine px_istore (lv' := [(0, .ref a), (1, .int (nI bits)), (2, .int (nI w)), (3, .int (nI (bits / 32))), (4, .int (nI (bits % 32)))]) hC [1, 2, 3, 4, 0] dX1_shiftRight_14 (by decide) rfl ?_
    refine px_iconst (v := nI 0) hC (by decide) dX1_shiftRight_16 ?_
    refine px_istore (lv' := [(0, .ref a), (1, .int (nI bits)), (2, .int (nI w)), (3, .int (nI (bits / 32))), (4, .int (nI (bits % 32))), (5, .int (nI 0))]) hC [1, 2, 3, 4, 5, 0] dX1_shiftRight_17 (by decide) rfl ?_
    have h0 := loop w 0 x (by omega) hx (fun _ _ => rfl) (fun j hj => absurd hj (by omega))
    rw [px_us hf.2] at h0
    exact h0
theorem c_cmp (l : Launch) (E : px_E) (L : List Nat) (f : Nat → va_E) (a b w : Nat) (x y : Nat → Nat) (hf : px_at L f a (aJ E 21 (lw x))) (hg : px_at L f b (aJ E 21 (lw y))) (hx : dg x) (hy : dg y) (hw : w ≤ 21) : px_M l yX1_compare wsX1_compare (px_rm 0 0) E L f [.ref a, .ref b, .int (nI w)] (px_i L (fun z f' => f' = f ∧ ((z = nI 0 ∧ vl 4294967296 x w = vl 4294967296 y w) ∨ (z = nI 1 ∧ vl 4294967296 y w < vl 4294967296 x w) ∨ (z = (-1) ∧ vl 4294967296 x w < vl 4294967296 y w)))) := by
  refine px_M.of (cc := cX1_compare) (maxL := 4) (ret := (some .int)) (lv := [(0, .ref a), (1, .ref b), (2, .int (nI w))]) (by decide) rfl (Nat.le_of_ble_eq_true rfl) rfl ?_
  intro p e s m below meth c A hC hnm
  obtain ⟨Q, hQ⟩ : ∃ Q, Q = MQ below (px_Q E (px_i L (fun z f' => f' = f ∧ ((z = nI 0 ∧ vl 4294967296 x w = vl 4294967296 y w) ∨ (z = nI 1 ∧ vl 4294967296 y w < vl 4294967296 x w) ∨ (z = (-1) ∧ vl 4294967296 x w < vl 4294967296 y w)))) A) [.ref a, .ref b, .int (nI w)].toArray s (px_rm 0 0).cells (px_rm 0 0).slots A := ⟨_, rfl⟩
  rw [← hQ]
  have loop : ∀ (d : Nat), d ≤ w → (∀ j, d ≤ j → j < w → x j = y j) → px p l e (px_rm 0 0) s m [.ref a, .ref b, .int (nI w)].toArray below meth c 4 E A s.heap L (f) 0 0 Q 4 [(0, .ref a), (1, .ref b), (2, .int (nI w)), (3, .int (nI d - nI 1))] [] := by
    intro d
    induction d with
    | zero =>
      intro hd he
      refine px_iload_n hC 3 rfl dX1_compare_4 ?_
      refine px_if_lt hC 40 dX1_compare_5 (by decide) (fun _ => ?_) (fun q9 => (q9 (by decide)).elim)
      refine px_iconst (v := nI 0) hC (by decide) dX1_compare_40 ?_
      subst hQ
      exact px_iret hC rfl (⟨_, rfl, rfl, rfl, Or.inl ⟨rfl, vl_c (fun j hj => he j (by omega) hj)⟩⟩) dX1_compare_41
    | succ d ih =>
      intro hd he
      rw [show nI (d + 1) - nI 1 = nI d from nI_pred d]
      have hxd := hx d (by omega)
      have hyd := hy d (by omega)
      refine px_iload_n hC 3 rfl dX1_compare_4 ?_
      refine px_if_lt hC 40 dX1_compare_5 (by decide) (fun q9 => ((nI_pos (by omega)) q9).elim) (fun _ => ?_)
      refine px_aload_n hC 0 rfl dX1_compare_8 ?_
      refine px_iload_n hC 3 rfl dX1_compare_9 ?_
      refine px_lald hC hf (by omega) (by first | decide | assumption | omega) dX1_compare_10 ?_
      refine px_aload_n hC 1 rfl dX1_compare_11 ?_
      refine px_iload_n hC 3 rfl dX1_compare_12 ?_
      refine px_lald hC hg (by omega) (by first | decide | assumption | omega) dX1_compare_13 ?_
      refine px_lcmp hC dX1_compare_14 ?_
      by_cases h : x d = y d
      · refine px_if_eq hC 34 dX1_compare_15 (by decide) (fun _ => ?_) (fun q9 => (q9 ((lz_c0 (by omega) (by omega)).mpr h)).elim)
        refine px_iinc (v := (nI d - nI 1)) (lv' := [(0, .ref a), (1, .ref b), (2, .int (nI w)), (3, .int (nI d - nI 1))]) hC 3 [1, 2, 3, 0] dX1_compare_34 rfl (by rw [Int32.sub_eq_add_neg]; rfl) (by decide) rfl ?_
        refine px_goto hC 4 dX1_compare_37 (by decide) ?_
        exact ih (by omega) (fun j h1 h2 => by
          by_cases q : j = d
          · subst q; exact h
          · exact he j (by omega) h2)
      · refine px_if_eq hC 34 dX1_compare_15 (by decide) (fun q9 => ((fun q => h ((lz_c0 (by omega) (by omega)).mp q)) q9).elim) (fun _ => ?_)
        refine px_aload_n hC 0 rfl dX1_compare_18 ?_
        refine px_iload_n hC 3 rfl dX1_compare_19 ?_
        refine px_lald hC hf (by omega) (by first | decide | assumption | omega) dX1_compare_20 ?_
        refine px_aload_n hC 1 rfl dX1_compare_21 ?_
        refine px_iload_n hC 3 rfl dX1_compare_22 ?_
        refine px_lald hC hg (by omega) (by first | decide | assumption | omega) dX1_compare_23 ?_
        refine px_lcmp hC dX1_compare_24 ?_
        by_cases h2 : y d ≤ x d
        · refine px_if_ge hC 32 dX1_compare_25 (by decide) (fun _ => ?_) (fun q9 => (q9 ((lz_cge (by omega) (by omega)).mpr h2)).elim)
          refine px_iconst (v := nI 1) hC (by decide) dX1_compare_32 ?_
          subst hQ
          exact px_iret hC rfl (⟨_, rfl, rfl, rfl, Or.inr (Or.inl ⟨rfl, vl_cmp (fun j hj => hy j (by omega)) (fun j hj => hx j (by omega)) (by omega) (fun j h3 h4 => (he j h3 h4).symm) (by omega)⟩)⟩) dX1_compare_33
        · refine px_if_ge hC 32 dX1_compare_25 (by decide) (fun q9 => ((fun q => h2 ((lz_cge (by omega) (by omega)).mp q)) q9).elim) (fun _ => ?_)
          refine px_iconst (v := (-1)) hC (by decide) dX1_compare_28 ?_
          refine px_goto hC 33 dX1_compare_29 (by decide) ?_
          subst hQ
          exact px_iret hC rfl (⟨_, rfl, rfl, rfl, Or.inr (Or.inr ⟨rfl, vl_cmp (fun j hj => hx j (by omega)) (fun j hj => hy j (by omega)) (by omega) (fun j h3 h4 => he j h3 h4) (by omega)⟩)⟩) dX1_compare_33
  refine px_iload_n hC 2 rfl dX1_compare_0 ?_
  refine px_iconst (v := nI 1) hC (by decide) dX1_compare_1 ?_
  refine px_isub hC dX1_compare_2 ?_
  refine px_istore_n (lv' := [(0, .ref a), (1, .ref b), (2, .int (nI w)), (3, .int ((nI w) - nI 1))]) hC [1, 2, 3, 0] dX1_compare_3 (by decide) rfl ?_
  exact loop w (Nat.le_refl w) (fun j h1 h2 => absurd h1 (by omega))

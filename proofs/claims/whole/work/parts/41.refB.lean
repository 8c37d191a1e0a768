theorem j_l2 : (2 : Int64).toInt = 2 := by decide +kernel

theorem n_ix {k w t : Nat} {x y : Int32} (hk : k < 6) (hw : w ≤ 20) (ht : t ≤ 20) (hi : 0 ≤ x.toInt ∧ x.toInt < w ∧ 0 ≤ y.toInt ∧ y.toInt < t) : ∃ j : Nat, 400 * nI k + 20 * y + x = nI (400 * k + j) ∧ j < 400 ∧ j = y.toInt.toNat * 20 + x.toInt.toNat := by
  obtain ⟨a, rfl, ea, la⟩ := i_nat hi.1
  obtain ⟨b, rfl, eb, lb⟩ := i_nat hi.2.2.1
  rw [ea, eb] at hi
  refine ⟨b * 20 + a, ?_, by omega, by rw [ea, eb]; rfl⟩
  rw [show (400 : Int32) = nI 400 from rfl, show (20 : Int32) = nI 20 from rfl, pk_mul, pk_mul, nI_add, nI_add]
  congr 1
  omega
theorem n_rd {f : Nat → Nat → Int32} {k j : Nat} (hj : j < 400) : f ((400 * k + j) / 400) ((400 * k + j) % 400) = f k j := by
  rw [show (400 * k + j) / 400 = k by omega, show (400 * k + j) % 400 = j by omega]

set_option maxHeartbeats 4000000 in
set_option maxRecDepth 100000 in
theorem q_look {G : eG} {ad : Nat → Nat} {h : Nat → va_E} {s : St} {z : Zm} {hm : Nat → va_E} (hw : MW G ad s z hm h) (hI : Inv s) (p : Int32) (x y : Int32)  : MC G M_X5_look cX5_look ad 54 [.ref (ad 34), .int p, .int x, .int y] h (PM G ad hm (.int (f_look s p x y).1) (f_look s p x y).2) := by
  by_cases hp : 0 ≤ p.toInt ∧ p.toInt ≤ 5
  · obtain ⟨k, rfl, ek, lk⟩ := i_nat hp.1
    have hk : k < 6 := by omega
    have e0 : f_look s (nI k) x y = g_look s k x y := by unfold f_look; rw [if_pos hp, nI_tn (by omega)]
    rw [e0]
    have hd := hI.1 k hk
    refine MC.of (by decide +kernel) (Nat.le_of_ble_eq_true rfl) (by dsimp only [linit, Nat.reduceSub, List.reduceReplicate] <;> rfl) ?_
    refine EV.iload_n (pc := 0) dX5_look_0 rfl ?_
    refine EV.callSR1 (pc := 1) (M' := M_X5_isPlate) dX5_look_1 lkX5_82 okS_X5_isPlate (n_isPlate _) (by decide) rfl rfl (Nat.le_of_ble_eq_true rfl) ?_
    refine EV.if_ne (pc := 4) (tgt := 10) dX5_look_4 (by decide) (fun _ => ?_) (fun q => absurd q (fun q => b2i_F q hp))
    refine EV.aload_n (pc := 10) dX5_look_10 rfl ?_
    refine EV.getf (pc := 11) dX5_look_11 fgX5_7 (by decide) hw.h34 rfl ?_
    refine EV.iload_n (pc := 14) dX5_look_14 rfl ?_
    refine EV.zald (pc := 15) dX5_look_15 (by decide) hw.h35 (vp_in_nI hk (by omega)) ?_
    refine EV.topi (y := b2i (!(s_lost s k))) (by rw [nI_clamp (by omega)]) ?_
    refine EV.if_ne (pc := 16) (tgt := 26) dX5_look_16 (by decide) (fun c16 => ?_) (fun c16 => ?_)
    · refine EV.aload_n (pc := 26) dX5_look_26 rfl ?_
      refine EV.iload_n (pc := 27) dX5_look_27 rfl ?_
      refine EV.iload_n (pc := 28) dX5_look_28 rfl ?_
      refine EV.iload_n (pc := 29) dX5_look_29 rfl ?_
      refine EV.callVR1 (pc := 30) (M' := M_X5_isPlace) dX5_look_30 lkX5_92 okV_X5_isPlace (n_isPlace k x y hw hk ⟨hd.1, hd.2.1⟩) (by decide) rfl rfl (Nat.le_of_ble_eq_true rfl) (by decide) hw.h34 ?_
      refine EV.if_ne (pc := 33) (tgt := 43) dX5_look_33 (by decide) (fun c33 => ?_) (fun c33 => ?_)
      · replace c33 := b2i_T c33
        obtain ⟨j, ej, hj, ejj⟩ := n_ix hk hd.1 hd.2.1 c33
        refine EV.aload_n (pc := 43) dX5_look_43 rfl ?_
        refine EV.aload_n (pc := 44) dX5_look_44 rfl ?_
        refine EV.getf (pc := 45) dX5_look_45 fgX5_23 (by decide) hw.h34 rfl ?_
        refine EV.iload_n (pc := 48) dX5_look_48 rfl ?_
        refine EV.iload_n (pc := 49) dX5_look_49 rfl ?_
        refine EV.iload_n (pc := 50) dX5_look_50 rfl ?_
        refine EV.callSR1 (pc := 51) (M' := M_X5_place) dX5_look_51 lkX5_96 okS_X5_place (n_place _ _ _) (by decide) rfl rfl (Nat.le_of_ble_eq_true rfl) ?_
        refine EV.topi (y := nI (400 * k + j)) ej ?_
        refine EV.iald (pc := 54) dX5_look_54 (by decide) hw.h39 (vp_in_nI (show 400 * k + j < 2400 by omega) (by omega)) ?_
        refine EV.topi (y := s_ct s k j) (by rw [nI_clamp (by omega)]; exact n_rd hj) ?_
        refine EV.putf (pc := 55) dX5_look_55 fpX5_110 (by decide) hw.h34 rfl rfl (Nat.le_of_ble_eq_true rfl) ?_
        refine EV.abs (Pr := MW G ad (S_sn s (s_ct s k j)) z hm) (hw.set_sn _) (fun h hw => ?_)
        refine EV.iconst (pc := 58) (v := 1) dX5_look_58 (by decide) ?_
        refine EV.iret (pc := 59) dX5_look_59 trivial ?_
        exact PM.i (by unfold g_look; rw [if_neg (by rw [nb_F c16]; simp), if_pos c33, ejj]) hw
      · replace c33 := b2i_F c33
        refine EV.aload_n (pc := 36) dX5_look_36 rfl ?_
        refine EV.bipush (pc := 37) (v := -12) dX5_look_37 (by decide) ?_
        refine EV.callVPi (pc := 39) (M' := M_X5_met) dX5_look_39 lkX5_88 okV_X5_met (n_met 2 _ hw (by omega) (by decide +kernel)) (by decide) rfl rfl (Nat.le_of_ble_eq_true rfl) (by decide) hw.h34 (fun h hw => ?_)
        refine EV.iret (pc := 42) dX5_look_42 trivial ?_
        exact PM.i (by unfold g_look; rw [if_neg (by rw [nb_F c16]; simp), if_neg c33]) hw
    · refine EV.aload_n (pc := 19) dX5_look_19 rfl ?_
      refine EV.bipush (pc := 20) (v := -11) dX5_look_20 (by decide) ?_
      refine EV.callVPi (pc := 22) (M' := M_X5_met) dX5_look_22 lkX5_88 okV_X5_met (n_met 1 _ hw (by omega) (by decide +kernel)) (by decide) rfl rfl (Nat.le_of_ble_eq_true rfl) (by decide) hw.h34 (fun h hw => ?_)
      refine EV.iret (pc := 25) dX5_look_25 trivial ?_
      exact PM.i (by unfold g_look; rw [if_pos (nb_T c16)]) hw
  · have e0 : f_look s p x y = (-101, s) := by unfold f_look; rw [if_neg hp]
    rw [e0]
    refine MC.of (by decide +kernel) (Nat.le_of_ble_eq_true rfl) (by dsimp only [linit, Nat.reduceSub, List.reduceReplicate] <;> rfl) ?_
    refine EV.iload_n (pc := 0) dX5_look_0 rfl ?_
    refine EV.callSR1 (pc := 1) (M' := M_X5_isPlate) dX5_look_1 lkX5_82 okS_X5_isPlate (n_isPlate _) (by decide) rfl rfl (Nat.le_of_ble_eq_true rfl) ?_
    refine EV.if_ne (pc := 4) (tgt := 10) dX5_look_4 (by decide) (fun q => absurd (b2i_0 hp).symm q) (fun _ => ?_)
    refine EV.bipush (pc := 7) (v := -101) dX5_look_7 (by decide) ?_
    exact EV.iret (pc := 9) dX5_look_9 trivial ⟨rfl, z, hw⟩

set_option maxHeartbeats 4000000 in
set_option maxRecDepth 100000 in
theorem q_put {G : eG} {ad : Nat → Nat} {h : Nat → va_E} {s : St} {z : Zm} {hm : Nat → va_E} (hw : MW G ad s z hm h) (hI : Inv s) (p : Int32) (lane x y v : Int32)  : MC G M_X5_put cX5_put ad 54 [.ref (ad 34), .int p, .int lane, .int x, .int y, .int v] h (PM G ad hm (.int (f_put s p lane x y v).1) (f_put s p lane x y v).2) := by
  by_cases hp : 0 ≤ p.toInt ∧ p.toInt ≤ 5
  · obtain ⟨k, rfl, ek, lk⟩ := i_nat hp.1
    have hk : k < 6 := by omega
    have e0 : f_put s (nI k) lane x y v = g_put s k lane x y v := by unfold f_put; rw [if_pos hp, nI_tn (by omega)]
    rw [e0]
    have hd := hI.1 k hk
    refine MC.of (by decide +kernel) (Nat.le_of_ble_eq_true rfl) (by dsimp only [linit, Nat.reduceSub, List.reduceReplicate] <;> rfl) ?_
    refine EV.iload_n (pc := 0) dX5_put_0 rfl ?_
    refine EV.callSR1 (pc := 1) (M' := M_X5_isPlate) dX5_put_1 lkX5_82 okS_X5_isPlate (n_isPlate _) (by decide) rfl rfl (Nat.le_of_ble_eq_true rfl) ?_
    refine EV.if_ne (pc := 4) (tgt := 10) dX5_put_4 (by decide) (fun _ => ?_) (fun q => absurd q (fun q => b2i_F q hp))
    refine EV.iload_n (pc := 10) dX5_put_10 rfl ?_
    refine EV.i2l (pc := 11) dX5_put_11 ?_
    refine EV.lconst (pc := 12) (v := 0) dX5_put_12 (by decide) ?_
    refine EV.ldc2 (pc := 13) dX5_put_13 kcX5_86 ?_
    refine EV.callSR1 (pc := 16) (M' := M_X5_in) dX5_put_16 lkX5_75 okS_X5_in (n_in _ _ _) (by decide) rfl rfl (Nat.le_of_ble_eq_true rfl) ?_
    refine EV.if_ne (pc := 19) (tgt := 25) dX5_put_19 (by decide) (fun c19 => ?_) (fun c19 => ?_)
    · replace c19 := b2i_T c19
      try simp only [Int32.toInt_toInt64, j_l0, j_l2] at c19
      refine EV.aload_n (pc := 25) dX5_put_25 rfl ?_
      refine EV.getf (pc := 26) dX5_put_26 fgX5_7 (by decide) hw.h34 rfl ?_
      refine EV.iload_n (pc := 29) dX5_put_29 rfl ?_
      refine EV.zald (pc := 30) dX5_put_30 (by decide) hw.h35 (vp_in_nI hk (by omega)) ?_
      refine EV.topi (y := b2i (!(s_lost s k))) (by rw [nI_clamp (by omega)]) ?_
      refine EV.if_ne (pc := 31) (tgt := 41) dX5_put_31 (by decide) (fun c31 => ?_) (fun c31 => ?_)
      · try simp only [Int32.toInt_toInt64, j_l0, j_l2] at c31
        refine EV.aload_n (pc := 41) dX5_put_41 rfl ?_
        refine EV.getf (pc := 42) dX5_put_42 fgX5_13 (by decide) hw.h34 rfl ?_
        refine EV.iload_n (pc := 45) dX5_put_45 rfl ?_
        refine EV.iald (pc := 46) dX5_put_46 (by decide) hw.h36 (vp_in_nI hk (by omega)) ?_
        refine EV.topi (y := nI (s_lane s k)) (by rw [nI_clamp (by omega)]) ?_
        refine EV.iload_n (pc := 47) dX5_put_47 rfl ?_
        refine EV.icmp_eq (pc := 48) (tgt := 58) dX5_put_48 (by decide) (fun c48 => ?_) (fun c48 => ?_)
        · try simp only [Int32.toInt_toInt64, j_l0, j_l2] at c48
          refine EV.aload_n (pc := 58) dX5_put_58 rfl ?_
          refine EV.iload_n (pc := 59) dX5_put_59 rfl ?_
          refine EV.iload_n (pc := 60) dX5_put_60 rfl ?_
          refine EV.iload (pc := 61) dX5_put_61 rfl ?_
          refine EV.callVR1 (pc := 63) (M' := M_X5_isPlace) dX5_put_63 lkX5_92 okV_X5_isPlace (n_isPlace k x y hw hk ⟨hd.1, hd.2.1⟩) (by decide) rfl rfl (Nat.le_of_ble_eq_true rfl) (by decide) hw.h34 ?_
          refine EV.if_ne (pc := 66) (tgt := 76) dX5_put_66 (by decide) (fun c66 => ?_) (fun c66 => ?_)
          · replace c66 := b2i_T c66
            try simp only [Int32.toInt_toInt64, j_l0, j_l2] at c66
            obtain ⟨j, ej, hj, ejj⟩ := n_ix hk hd.1 hd.2.1 c66
            refine EV.aload_n (pc := 76) dX5_put_76 rfl ?_
            refine EV.getf (pc := 77) dX5_put_77 fgX5_23 (by decide) hw.h34 rfl ?_
            refine EV.iload_n (pc := 80) dX5_put_80 rfl ?_
            refine EV.iload_n (pc := 81) dX5_put_81 rfl ?_
            refine EV.iload (pc := 82) dX5_put_82 rfl ?_
            refine EV.callSR1 (pc := 84) (M' := M_X5_place) dX5_put_84 lkX5_96 okS_X5_place (n_place _ _ _) (by decide) rfl rfl (Nat.le_of_ble_eq_true rfl) ?_
            refine EV.topi (y := nI (400 * k + j)) ej ?_
            refine EV.iload_n (pc := 87) dX5_put_87 rfl ?_
            refine EV.iload (pc := 88) dX5_put_88 rfl ?_
            refine EV.callSR1 (pc := 90) (M' := M_X5_cast) dX5_put_90 lkX5_100 okS_X5_cast (n_cast _ _) (by decide) rfl rfl (Nat.le_of_ble_eq_true rfl) ?_
            refine EV.iast (pc := 93) dX5_put_93 (by decide) hw.h39 (vp_in_nI (show 400 * k + j < 2400 by omega) (by omega)) ?_
            refine EV.abs (Pr := MW G ad (S_ct s (va_up (s_ct s) k (upd (s_ct s k) j (iCast v lane)))) z hm) (by have q := hw.set_ct k j (iCast v lane) hj; rw [nI_clamp (by omega)]; exact q) (fun h hw => ?_)
            refine EV.iconst (pc := 94) (v := 1) dX5_put_94 (by decide) ?_
            refine EV.iret (pc := 95) dX5_put_95 trivial ?_
            exact PM.i (by unfold g_put; rw [if_pos c19, if_neg (by rw [nb_F c31]; simp), if_pos c48, if_pos c66, c48, ejj]) hw
          · replace c66 := b2i_F c66
            try simp only [Int32.toInt_toInt64, j_l0, j_l2] at c66
            refine EV.aload_n (pc := 69) dX5_put_69 rfl ?_
            refine EV.bipush (pc := 70) (v := -12) dX5_put_70 (by decide) ?_
            refine EV.callVPi (pc := 72) (M' := M_X5_met) dX5_put_72 lkX5_88 okV_X5_met (n_met 2 _ hw (by omega) (by decide +kernel)) (by decide) rfl rfl (Nat.le_of_ble_eq_true rfl) (by decide) hw.h34 (fun h hw => ?_)
            refine EV.iret (pc := 75) dX5_put_75 trivial ?_
            exact PM.i (by unfold g_put; rw [if_pos c19, if_neg (by rw [nb_F c31]; simp), if_pos c48, if_neg c66]) hw
        · try simp only [Int32.toInt_toInt64, j_l0, j_l2] at c48
          refine EV.aload_n (pc := 51) dX5_put_51 rfl ?_
          refine EV.bipush (pc := 52) (v := -14) dX5_put_52 (by decide) ?_
          refine EV.callVPi (pc := 54) (M' := M_X5_met) dX5_put_54 lkX5_88 okV_X5_met (n_met 4 _ hw (by omega) (by decide +kernel)) (by decide) rfl rfl (Nat.le_of_ble_eq_true rfl) (by decide) hw.h34 (fun h hw => ?_)
          refine EV.iret (pc := 57) dX5_put_57 trivial ?_
          exact PM.i (by unfold g_put; rw [if_pos c19, if_neg (by rw [nb_F c31]; simp), if_neg c48]) hw
      · try simp only [Int32.toInt_toInt64, j_l0, j_l2] at c31
        refine EV.aload_n (pc := 34) dX5_put_34 rfl ?_
        refine EV.bipush (pc := 35) (v := -11) dX5_put_35 (by decide) ?_
        refine EV.callVPi (pc := 37) (M' := M_X5_met) dX5_put_37 lkX5_88 okV_X5_met (n_met 1 _ hw (by omega) (by decide +kernel)) (by decide) rfl rfl (Nat.le_of_ble_eq_true rfl) (by decide) hw.h34 (fun h hw => ?_)
        refine EV.iret (pc := 40) dX5_put_40 trivial ?_
        exact PM.i (by unfold g_put; rw [if_pos c19, if_pos (nb_T c31)]) hw
    · replace c19 := b2i_F c19
      try simp only [Int32.toInt_toInt64, j_l0, j_l2] at c19
      refine EV.bipush (pc := 22) (v := -102) dX5_put_22 (by decide) ?_
      refine EV.iret (pc := 24) dX5_put_24 trivial ?_
      exact PM.i (by unfold g_put; rw [if_neg c19]) hw
  · have e0 : f_put s p lane x y v = (-101, s) := by unfold f_put; rw [if_neg hp]
    rw [e0]
    refine MC.of (by decide +kernel) (Nat.le_of_ble_eq_true rfl) (by dsimp only [linit, Nat.reduceSub, List.reduceReplicate] <;> rfl) ?_
    refine EV.iload_n (pc := 0) dX5_put_0 rfl ?_
    refine EV.callSR1 (pc := 1) (M' := M_X5_isPlate) dX5_put_1 lkX5_82 okS_X5_isPlate (n_isPlate _) (by decide) rfl rfl (Nat.le_of_ble_eq_true rfl) ?_
    refine EV.if_ne (pc := 4) (tgt := 10) dX5_put_4 (by decide) (fun q => absurd (b2i_0 hp).symm q) (fun _ => ?_)
    refine EV.bipush (pc := 7) (v := -101) dX5_put_7 (by decide) ?_
    exact EV.iret (pc := 9) dX5_put_9 trivial ⟨rfl, z, hw⟩

set_option maxHeartbeats 4000000 in
set_option maxRecDepth 100000 in
theorem p_seen {G : eG} {ad : Nat → Nat} {h : Nat → va_E} {s : St} {z : Zc} {hm : Nat → va_E} (hw : CW G ad s z hm h) (hI : Inv s)   : MC G M_X4_seen cX4_seen ad 54 [.ref (ad 0)] h (PC G ad hm (.int (s_sn s)) s) := by
  refine MC.of (by decide +kernel) (Nat.le_of_ble_eq_true rfl) (by dsimp only [linit, Nat.reduceSub, List.reduceReplicate] <;> rfl) ?_
  refine EV.aload_n (pc := 0) dX4_seen_0 rfl ?_
  refine EV.getf (pc := 1) dX4_seen_1 fgX4_103 (by decide) hw.h0 rfl ?_
  exact EV.iret (pc := 4) dX4_seen_4 trivial ⟨rfl, z, hw⟩

set_option maxHeartbeats 4000000 in
set_option maxRecDepth 100000 in
theorem p_cause {G : eG} {ad : Nat → Nat} {h : Nat → va_E} {s : St} {z : Zc} {hm : Nat → va_E} (hw : CW G ad s z hm h) (hI : Inv s)   : MC G M_X4_cause cX4_cause ad 54 [.ref (ad 0)] h (PC G ad hm (.int (s_cs s)) s) := by
  refine MC.of (by decide +kernel) (Nat.le_of_ble_eq_true rfl) (by dsimp only [linit, Nat.reduceSub, List.reduceReplicate] <;> rfl) ?_
  refine EV.aload_n (pc := 0) dX4_cause_0 rfl ?_
  refine EV.getf (pc := 1) dX4_cause_1 fgX4_223 (by decide) hw.h0 rfl ?_
  exact EV.iret (pc := 4) dX4_cause_4 trivial ⟨rfl, z, hw⟩

set_option maxHeartbeats 4000000 in
set_option maxRecDepth 100000 in
theorem p_clear {G : eG} {ad : Nat → Nat} {h : Nat → va_E} {s : St} {z : Zc} {hm : Nat → va_E} (hw : CW G ad s z hm h) (hI : Inv s)   : MC G M_X4_clear cX4_clear ad 54 [.ref (ad 0)] h (PC G ad hm (.int (f_clear s).1) (f_clear s).2) := by
  refine MC.of (by decide +kernel) (Nat.le_of_ble_eq_true rfl) (by dsimp only [linit, Nat.reduceSub, List.reduceReplicate] <;> rfl) ?_
  refine EV.aload_n (pc := 0) dX4_clear_0 rfl ?_
  refine EV.getf (pc := 1) dX4_clear_1 fgX4_172 (by decide) hw.h0 rfl ?_
  refine EV.istore_n (pc := 4) 1 dX4_clear_4 rfl (by decide) (by dsimp only [lst1, lk] <;> rfl) ?_
  refine EV.aload_n (pc := 5) dX4_clear_5 rfl ?_
  refine EV.iconst (pc := 6) (v := 0) dX4_clear_6 (by decide) ?_
  refine EV.putf (pc := 7) dX4_clear_7 fpX4_172 (by decide) hw.h0 rfl rfl (Nat.le_of_ble_eq_true rfl) ?_
  refine EV.abs (Pr := CW G ad (S_lc s 0) z hm) (hw.set_lc 0) (fun h hw => ?_)
  refine EV.iload_n (pc := 10) dX4_clear_10 rfl ?_
  exact EV.iret (pc := 11) dX4_clear_11 trivial ⟨rfl, z, hw⟩

set_option maxHeartbeats 4000000 in
set_option maxRecDepth 100000 in
theorem p_causes {G : eG} {ad : Nat → Nat} {h : Nat → va_E} {s : St} {z : Zc} {hm : Nat → va_E} (hw : CW G ad s z hm h) (hI : Inv s) (c : Int32)  : MC G M_X4_causes cX4_causes ad 54 [.ref (ad 0), .int c] h (PC G ad hm (.int (f_causes s c)) s) := by
  refine MC.of (by decide +kernel) (Nat.le_of_ble_eq_true rfl) (by dsimp only [linit, Nat.reduceSub, List.reduceReplicate] <;> rfl) ?_
  have e5 : (5 : Int32).toInt = 5 := i_l5
  refine EV.iload_n (pc := 0) dX4_causes_0 rfl ?_
  refine EV.iconst (pc := 1) (v := 1) dX4_causes_1 (by decide) ?_
  refine EV.iconst (pc := 2) (v := 5) dX4_causes_2 (by decide) ?_
  refine EV.callSR1 (pc := 3) (M' := M_X4_within) dX4_causes_3 lkX4_106 okS_X4_within (m_within _ _ _) (by decide) rfl rfl (Nat.le_of_ble_eq_true rfl) ?_
  refine EV.if_eq (pc := 6) (tgt := 18) dX4_causes_6 (by decide) (fun c6 => ?_) (fun c6 => ?_)
  · replace c6 := b2i_F c6
    refine EV.bipush (pc := 18) (v := -102) dX4_causes_18 (by decide) ?_
    refine EV.iret (pc := 20) dX4_causes_20 trivial ?_
    refine ⟨congrArg (fun z => some (Value.int z)) ?_, z, hw⟩
    simp only [i_l1, i_l5] at *
    unfold f_causes
    first | (rw [if_pos (by assumption)]; rfl) | (rw [if_neg (by assumption)])
  · replace c6 := b2i_T c6
    refine EV.aload_n (pc := 9) dX4_causes_9 rfl ?_
    refine EV.getf (pc := 10) dX4_causes_10 fgX4_33 (by decide) hw.h0 rfl ?_
    refine EV.iload_n (pc := 13) dX4_causes_13 rfl ?_
    refine EV.iald (pc := 14) dX4_causes_14 (by decide) hw.h6 (by rw [vp_in_iff]; simp only [i_l1, i_l5] at *; omega) ?_
    refine EV.goto (pc := 15) (tgt := 20) dX4_causes_15 (by decide) ?_
    refine EV.iret (pc := 20) dX4_causes_20 trivial ?_
    refine ⟨congrArg (fun z => some (Value.int z)) ?_, z, hw⟩
    simp only [i_l1, i_l5] at *
    unfold f_causes
    first | (rw [if_pos (by assumption)]; rfl) | (rw [if_neg (by assumption)])

set_option maxHeartbeats 4000000 in
set_option maxRecDepth 100000 in
theorem p_lose {G : eG} {ad : Nat → Nat} {h : Nat → va_E} {s : St} {z : Zc} {hm : Nat → va_E} (hw : CW G ad s z hm h) (hI : Inv s) (p : Int32)   : MC G M_X4_lose cX4_lose ad 54 [.ref (ad 0), .int p] h (PC G ad hm (.int (f_lose s p).1) (f_lose s p).2) := by
  by_cases hp : 0 ≤ p.toInt ∧ p.toInt ≤ 5
  · obtain ⟨k, rfl, ek, lk⟩ := i_nat hp.1
    have hk : k < 6 := by omega
    have e0 : f_lose s (nI k)  = g_lose s k  := by unfold f_lose; rw [if_pos hp, nI_tn (by omega)]
    rw [e0]
    obtain ⟨hI1, hI2, hI3, hI4, hI5, hI6, hI7, hI8, hI9, hI10, hI11, hI12, hI13⟩ := hI
    have hd := hI1 k hk
    refine MC.of (by decide +kernel) (Nat.le_of_ble_eq_true rfl) (by dsimp only [linit, Nat.reduceSub, List.reduceReplicate] <;> rfl) ?_
    refine EV.aload_n (pc := 0) dX4_lose_0 rfl ?_
    refine EV.iload_n (pc := 1) dX4_lose_1 rfl ?_
    refine EV.callVR1 (pc := 2) (M' := M_X4_plateOf) dX4_lose_2 lkX4_55 okV_X4_plateOf (m_plateOf k hw hk) (by decide) rfl rfl (Nat.le_of_ble_eq_true rfl) (by decide) hw.h0 ?_
    refine EV.astore_n (pc := 5) 2 dX4_lose_5 rfl (by decide) (by dsimp only [lst1, lk] <;> rfl) ?_
    refine EV.aload_n (pc := 6) dX4_lose_6 rfl ?_
    refine EV.ifnonnull (pc := 7) (tgt := 13) dX4_lose_7 (by decide) ?_
    refine EV.aload_n (pc := 13) dX4_lose_13 rfl ?_
    refine EV.getf (pc := 14) dX4_lose_14 fgX4_71 (show 10 + 2 * k < 54 by omega) (hw.pl' hk) rfl ?_
    refine EV.if_eq (pc := 17) (tgt := 26) dX4_lose_17 (by decide) (fun c17 => ?_) (fun c17 => ?_)
    · replace c17 := b2i_eq c17
      refine EV.aload_n (pc := 26) dX4_lose_26 rfl ?_
      refine EV.iconst (pc := 27) (v := 1) dX4_lose_27 (by decide) ?_
      refine EV.putf (pc := 28) dX4_lose_28 fpX4_71 (show 10 + 2 * k < 54 by omega) (hw.pl' hk) rfl rfl (Nat.le_of_ble_eq_true rfl) ?_
      refine EV.abs (Pr := CW G ad (S_lost s (va_up (s_lost s) k true)) z hm) (hw.set_lost k true hk) (fun h hw => ?_)
      refine EV.iconst (pc := 31) (v := 1) dX4_lose_31 (by decide) ?_
      refine EV.iret (pc := 32) dX4_lose_32 trivial ?_
      exact PC.i (by unfold g_lose; simp [c17]) hw
    · replace c17 := b2i_ne c17
      refine EV.aload_n (pc := 20) dX4_lose_20 rfl ?_
      refine EV.iconst (pc := 21) (v := 1) dX4_lose_21 (by decide) ?_
      refine EV.callVPi (pc := 22) (M' := M_X4_caused) dX4_lose_22 lkX4_63 okV_X4_caused (m_caused 1 hw (by omega)) (by decide) rfl rfl (Nat.le_of_ble_eq_true rfl) (by decide) hw.h0 (fun h hw => ?_)
      refine EV.topi (y := -11) (by decide +kernel) ?_
      refine EV.iret (pc := 25) dX4_lose_25 trivial ?_
      exact PC.i (by unfold g_lose; simp [c17]) hw
  · have e0 : f_lose s p  = (-101, s) := by unfold f_lose; rw [if_neg hp]
    rw [e0]
    refine MC.of (by decide +kernel) (Nat.le_of_ble_eq_true rfl) (by dsimp only [linit, Nat.reduceSub, List.reduceReplicate] <;> rfl) ?_
    refine EV.aload_n (pc := 0) dX4_lose_0 rfl ?_
    refine EV.iload_n (pc := 1) dX4_lose_1 rfl ?_
    refine EV.callVR1 (pc := 2) (M' := M_X4_plateOf) dX4_lose_2 lkX4_55 okV_X4_plateOf (m_plateOfN p hw hp) (by decide) rfl rfl (Nat.le_of_ble_eq_true rfl) (by decide) hw.h0 ?_
    refine EV.astoreN_n (pc := 5) 2 dX4_lose_5 rfl (by decide) (by dsimp only [lst1, lk] <;> rfl) ?_
    refine EV.aloadN_n (pc := 6) dX4_lose_6 rfl ?_
    refine EV.ifnonnullN (pc := 7) dX4_lose_7 ?_
    refine EV.bipush (pc := 10) (v := -101) dX4_lose_10 (by decide) ?_
    exact EV.iret (pc := 12) dX4_lose_12 trivial ⟨rfl, z, hw⟩

set_option maxHeartbeats 4000000 in
set_option maxRecDepth 100000 in
theorem p_look {G : eG} {ad : Nat → Nat} {h : Nat → va_E} {s : St} {z : Zc} {hm : Nat → va_E} (hw : CW G ad s z hm h) (hI : Inv s) (p : Int32) (x y : Int32)  : MC G M_X4_look cX4_look ad 54 [.ref (ad 0), .int p, .int x, .int y] h (PC G ad hm (.int (f_look s p x y).1) (f_look s p x y).2) := by
  by_cases hp : 0 ≤ p.toInt ∧ p.toInt ≤ 5
  · obtain ⟨k, rfl, ek, lk⟩ := i_nat hp.1
    have hk : k < 6 := by omega
    have e0 : f_look s (nI k) x y = g_look s k x y := by unfold f_look; rw [if_pos hp, nI_tn (by omega)]
    rw [e0]
    obtain ⟨hI1, hI2, hI3, hI4, hI5, hI6, hI7, hI8, hI9, hI10, hI11, hI12, hI13⟩ := hI
    have hd := hI1 k hk
    refine MC.of (by decide +kernel) (Nat.le_of_ble_eq_true rfl) (by dsimp only [linit, Nat.reduceSub, List.reduceReplicate] <;> rfl) ?_
    refine EV.aload_n (pc := 0) dX4_look_0 rfl ?_
    refine EV.iload_n (pc := 1) dX4_look_1 rfl ?_
    refine EV.callVR1 (pc := 2) (M' := M_X4_plateOf) dX4_look_2 lkX4_55 okV_X4_plateOf (m_plateOf k hw hk) (by decide) rfl rfl (Nat.le_of_ble_eq_true rfl) (by decide) hw.h0 ?_
    refine EV.astore (pc := 5) dX4_look_5 (by decide) (by dsimp only [lst1, lk] <;> rfl) ?_
    refine EV.aload (pc := 7) dX4_look_7 rfl ?_
    refine EV.ifnonnull (pc := 9) (tgt := 15) dX4_look_9 (by decide) ?_
    refine EV.aload (pc := 15) dX4_look_15 rfl ?_
    refine EV.getf (pc := 17) dX4_look_17 fgX4_71 (show 10 + 2 * k < 54 by omega) (hw.pl' hk) rfl ?_
    refine EV.if_eq (pc := 20) (tgt := 29) dX4_look_20 (by decide) (fun c20 => ?_) (fun c20 => ?_)
    · replace c20 := b2i_eq c20
      refine EV.aload (pc := 29) dX4_look_29 rfl ?_
      refine EV.iload_n (pc := 31) dX4_look_31 rfl ?_
      refine EV.iload_n (pc := 32) dX4_look_32 rfl ?_
      refine EV.callVR1 (pc := 33) (M' := M_X2_holds) dX4_look_33 lkX4_79 okV_X2_holds (m_holds (10 + 2 * k) (b2i (s_lost s k)) (s_lane s k) (s_w s k) (s_h s k) _ _ _ (by omega) hd.1 hd.2.1 (hw.pl' hk)) (by decide) rfl rfl (Nat.le_of_ble_eq_true rfl) (show 10 + 2 * k < 54 by omega) (hw.pl' hk) ?_
      refine EV.if_ne (pc := 36) (tgt := 45) dX4_look_36 (by decide) (fun c36 => ?_) (fun c36 => ?_)
      · replace c36 := b2i_T c36
        refine EV.aload_n (pc := 45) dX4_look_45 rfl ?_
        refine EV.aload (pc := 46) dX4_look_46 rfl ?_
        refine EV.iload_n (pc := 48) dX4_look_48 rfl ?_
        refine EV.iload_n (pc := 49) dX4_look_49 rfl ?_
        refine EV.callVR1 (pc := 50) (M' := M_X2_at) dX4_look_50 lkX4_96 okV_X2_at (m_pat (10 + 2 * k) (11 + 2 * k) (b2i (s_lost s k)) (s_lane s k) (s_w s k) (s_h s k) (s_ct s k) _ _ (by omega) (by omega) hd.1 hd.2.1 (hw.pl' hk) (hw.ct k hk)) (by decide) rfl rfl (Nat.le_of_ble_eq_true rfl) (show 10 + 2 * k < 54 by omega) (hw.pl' hk) ?_
        refine EV.putf (pc := 53) dX4_look_53 fpX4_103 (by decide) hw.h0 rfl rfl (Nat.le_of_ble_eq_true rfl) ?_
        refine EV.abs (Pr := CW G ad (S_sn s (pAt (s_ct s k) (s_w s k) (s_h s k) x.toInt y.toInt)) z hm) (hw.set_sn _) (fun h hw => ?_)
        refine EV.iconst (pc := 56) (v := 1) dX4_look_56 (by decide) ?_
        refine EV.iret (pc := 57) dX4_look_57 trivial ?_
        exact PC.i (by unfold g_look; rw [if_neg (by simp [c20]), if_pos c36]; unfold pAt; rw [if_pos c36]) hw
      · replace c36 := b2i_F c36
        refine EV.aload_n (pc := 39) dX4_look_39 rfl ?_
        refine EV.iconst (pc := 40) (v := 2) dX4_look_40 (by decide) ?_
        refine EV.callVPi (pc := 41) (M' := M_X4_caused) dX4_look_41 lkX4_63 okV_X4_caused (m_caused 2 hw (by omega)) (by decide) rfl rfl (Nat.le_of_ble_eq_true rfl) (by decide) hw.h0 (fun h hw => ?_)
        refine EV.topi (y := -12) (by decide +kernel) ?_
        refine EV.iret (pc := 44) dX4_look_44 trivial ?_
        exact PC.i (by unfold g_look; simp [c20, c36]) hw
    · replace c20 := b2i_ne c20
      refine EV.aload_n (pc := 23) dX4_look_23 rfl ?_
      refine EV.iconst (pc := 24) (v := 1) dX4_look_24 (by decide) ?_
      refine EV.callVPi (pc := 25) (M' := M_X4_caused) dX4_look_25 lkX4_63 okV_X4_caused (m_caused 1 hw (by omega)) (by decide) rfl rfl (Nat.le_of_ble_eq_true rfl) (by decide) hw.h0 (fun h hw => ?_)
      refine EV.topi (y := -11) (by decide +kernel) ?_
      refine EV.iret (pc := 28) dX4_look_28 trivial ?_
      exact PC.i (by unfold g_look; simp [c20]) hw
  · have e0 : f_look s p x y = (-101, s) := by unfold f_look; rw [if_neg hp]
    rw [e0]
    refine MC.of (by decide +kernel) (Nat.le_of_ble_eq_true rfl) (by dsimp only [linit, Nat.reduceSub, List.reduceReplicate] <;> rfl) ?_
    refine EV.aload_n (pc := 0) dX4_look_0 rfl ?_
    refine EV.iload_n (pc := 1) dX4_look_1 rfl ?_
    refine EV.callVR1 (pc := 2) (M' := M_X4_plateOf) dX4_look_2 lkX4_55 okV_X4_plateOf (m_plateOfN p hw hp) (by decide) rfl rfl (Nat.le_of_ble_eq_true rfl) (by decide) hw.h0 ?_
    refine EV.astoreN (pc := 5) dX4_look_5 (by decide) (by dsimp only [lst1, lk] <;> rfl) ?_
    refine EV.aloadN (pc := 7) dX4_look_7 rfl ?_
    refine EV.ifnonnullN (pc := 9) dX4_look_9 ?_
    refine EV.bipush (pc := 12) (v := -101) dX4_look_12 (by decide) ?_
    exact EV.iret (pc := 14) dX4_look_14 trivial ⟨rfl, z, hw⟩

set_option maxHeartbeats 4000000 in
set_option maxRecDepth 100000 in
theorem p_put {G : eG} {ad : Nat → Nat} {h : Nat → va_E} {s : St} {z : Zc} {hm : Nat → va_E} (hw : CW G ad s z hm h) (hI : Inv s) (p : Int32) (lane x y v : Int32)  : MC G M_X4_put cX4_put ad 54 [.ref (ad 0), .int p, .int lane, .int x, .int y, .int v] h (PC G ad hm (.int (f_put s p lane x y v).1) (f_put s p lane x y v).2) := by
  by_cases hp : 0 ≤ p.toInt ∧ p.toInt ≤ 5
  · obtain ⟨k, rfl, ek, lk⟩ := i_nat hp.1
    have hk : k < 6 := by omega
    have e0 : f_put s (nI k) lane x y v = g_put s k lane x y v := by unfold f_put; rw [if_pos hp, nI_tn (by omega)]
    rw [e0]
    obtain ⟨hI1, hI2, hI3, hI4, hI5, hI6, hI7, hI8, hI9, hI10, hI11, hI12, hI13⟩ := hI
    have hd := hI1 k hk
    refine MC.of (by decide +kernel) (Nat.le_of_ble_eq_true rfl) (by dsimp only [linit, Nat.reduceSub, List.reduceReplicate] <;> rfl) ?_
    refine EV.aload_n (pc := 0) dX4_put_0 rfl ?_
    refine EV.iload_n (pc := 1) dX4_put_1 rfl ?_
    refine EV.callVR1 (pc := 2) (M' := M_X4_plateOf) dX4_put_2 lkX4_55 okV_X4_plateOf (m_plateOf k hw hk) (by decide) rfl rfl (Nat.le_of_ble_eq_true rfl) (by decide) hw.h0 ?_
    refine EV.astore (pc := 5) dX4_put_5 (by decide) (by dsimp only [lst1, lk] <;> rfl) ?_
    refine EV.aload (pc := 7) dX4_put_7 rfl ?_
    refine EV.ifnonnull (pc := 9) (tgt := 15) dX4_put_9 (by decide) ?_
    refine EV.iload_n (pc := 15) dX4_put_15 rfl ?_
    refine EV.callSR1 (pc := 16) (M' := M_X4_isLane) dX4_put_16 lkX4_59 okS_X4_isLane (m_isLane _) (by decide) rfl rfl (Nat.le_of_ble_eq_true rfl) ?_
    refine EV.if_ne (pc := 19) (tgt := 25) dX4_put_19 (by decide) (fun c19 => ?_) (fun c19 => ?_)
    · replace c19 := b2i_T c19
      refine EV.aload (pc := 25) dX4_put_25 rfl ?_
      refine EV.getf (pc := 27) dX4_put_27 fgX4_71 (show 10 + 2 * k < 54 by omega) (hw.pl' hk) rfl ?_
      refine EV.if_eq (pc := 30) (tgt := 39) dX4_put_30 (by decide) (fun c30 => ?_) (fun c30 => ?_)
      · replace c30 := b2i_eq c30
        refine EV.aload (pc := 39) dX4_put_39 rfl ?_
        refine EV.getf (pc := 41) dX4_put_41 fgX4_75 (show 10 + 2 * k < 54 by omega) (hw.pl' hk) rfl ?_
        refine EV.iload_n (pc := 44) dX4_put_44 rfl ?_
        refine EV.icmp_eq (pc := 45) (tgt := 54) dX4_put_45 (by decide) (fun c45 => ?_) (fun c45 => ?_)
        · refine EV.aload (pc := 54) dX4_put_54 rfl ?_
          refine EV.iload_n (pc := 56) dX4_put_56 rfl ?_
          refine EV.iload (pc := 57) dX4_put_57 rfl ?_
          refine EV.callVR1 (pc := 59) (M' := M_X2_holds) dX4_put_59 lkX4_79 okV_X2_holds (m_holds (10 + 2 * k) (b2i (s_lost s k)) (s_lane s k) (s_w s k) (s_h s k) _ _ _ (by omega) hd.1 hd.2.1 (hw.pl' hk)) (by decide) rfl rfl (Nat.le_of_ble_eq_true rfl) (show 10 + 2 * k < 54 by omega) (hw.pl' hk) ?_
          refine EV.if_ne (pc := 62) (tgt := 71) dX4_put_62 (by decide) (fun c62 => ?_) (fun c62 => ?_)
          · replace c62 := b2i_T c62
            refine EV.aload (pc := 71) dX4_put_71 rfl ?_
            refine EV.iload_n (pc := 73) dX4_put_73 rfl ?_
            refine EV.iload (pc := 74) dX4_put_74 rfl ?_
            refine EV.iload (pc := 76) dX4_put_76 rfl ?_
            refine EV.callVR0 (pc := 78) (M' := M_X2_set) dX4_put_78 lkX4_83 okV_X2_set (m_pset (10 + 2 * k) (11 + 2 * k) (b2i (s_lost s k)) (s_lane s k) (s_w s k) (s_h s k) (s_ct s k) _ _ _ (by omega) (by omega) hd.1 hd.2.1 (hw.pl' hk) (hw.ct k hk) c62) (by decide) rfl rfl (Nat.le_of_ble_eq_true rfl) (show 10 + 2 * k < 54 by omega) (hw.pl' hk) ?_
            refine EV.abs (Pr := CW G ad (S_ct s (va_up (s_ct s) k (upd (s_ct s k) (y.toInt.toNat * 20 + x.toInt.toNat) (iCast v (nI (s_lane s k)))))) z hm) (hw.set_ct k _ hk) (fun h hw => ?_)
            refine EV.iconst (pc := 81) (v := 1) dX4_put_81 (by decide) ?_
            refine EV.iret (pc := 82) dX4_put_82 trivial ?_
            exact PC.i (by unfold g_put; rw [if_pos c19, if_neg (by simp [c30]), if_pos c45, if_pos c62]) hw
          · replace c62 := b2i_F c62
            refine EV.aload_n (pc := 65) dX4_put_65 rfl ?_
            refine EV.iconst (pc := 66) (v := 2) dX4_put_66 (by decide) ?_
            refine EV.callVPi (pc := 67) (M' := M_X4_caused) dX4_put_67 lkX4_63 okV_X4_caused (m_caused 2 hw (by omega)) (by decide) rfl rfl (Nat.le_of_ble_eq_true rfl) (by decide) hw.h0 (fun h hw => ?_)
            refine EV.topi (y := -12) (by decide +kernel) ?_
            refine EV.iret (pc := 70) dX4_put_70 trivial ?_
            exact PC.i (by unfold g_put; rw [if_pos c19, if_neg (by simp [c30]), if_pos c45, if_neg c62]) hw
        · refine EV.aload_n (pc := 48) dX4_put_48 rfl ?_
          refine EV.iconst (pc := 49) (v := 4) dX4_put_49 (by decide) ?_
          refine EV.callVPi (pc := 50) (M' := M_X4_caused) dX4_put_50 lkX4_63 okV_X4_caused (m_caused 4 hw (by omega)) (by decide) rfl rfl (Nat.le_of_ble_eq_true rfl) (by decide) hw.h0 (fun h hw => ?_)
          refine EV.topi (y := -14) (by decide +kernel) ?_
          refine EV.iret (pc := 53) dX4_put_53 trivial ?_
          exact PC.i (by unfold g_put; rw [if_pos c19, if_neg (by simp [c30]), if_neg c45]) hw
      · replace c30 := b2i_ne c30
        refine EV.aload_n (pc := 33) dX4_put_33 rfl ?_
        refine EV.iconst (pc := 34) (v := 1) dX4_put_34 (by decide) ?_
        refine EV.callVPi (pc := 35) (M' := M_X4_caused) dX4_put_35 lkX4_63 okV_X4_caused (m_caused 1 hw (by omega)) (by decide) rfl rfl (Nat.le_of_ble_eq_true rfl) (by decide) hw.h0 (fun h hw => ?_)
        refine EV.topi (y := -11) (by decide +kernel) ?_
        refine EV.iret (pc := 38) dX4_put_38 trivial ?_
        exact PC.i (by unfold g_put; rw [if_pos c19, if_pos c30]) hw
    · replace c19 := b2i_F c19
      refine EV.bipush (pc := 22) (v := -102) dX4_put_22 (by decide) ?_
      refine EV.iret (pc := 24) dX4_put_24 trivial ?_
      exact PC.i (by unfold g_put; rw [if_neg c19]) hw
  · have e0 : f_put s p lane x y v = (-101, s) := by unfold f_put; rw [if_neg hp]
    rw [e0]
    refine MC.of (by decide +kernel) (Nat.le_of_ble_eq_true rfl) (by dsimp only [linit, Nat.reduceSub, List.reduceReplicate] <;> rfl) ?_
    refine EV.aload_n (pc := 0) dX4_put_0 rfl ?_
    refine EV.iload_n (pc := 1) dX4_put_1 rfl ?_
    refine EV.callVR1 (pc := 2) (M' := M_X4_plateOf) dX4_put_2 lkX4_55 okV_X4_plateOf (m_plateOfN p hw hp) (by decide) rfl rfl (Nat.le_of_ble_eq_true rfl) (by decide) hw.h0 ?_
    refine EV.astoreN (pc := 5) dX4_put_5 (by decide) (by dsimp only [lst1, lk] <;> rfl) ?_
    refine EV.aloadN (pc := 7) dX4_put_7 rfl ?_
    refine EV.ifnonnullN (pc := 9) dX4_put_9 ?_
    refine EV.bipush (pc := 12) (v := -101) dX4_put_12 (by decide) ?_
    exact EV.iret (pc := 14) dX4_put_14 trivial ⟨rfl, z, hw⟩

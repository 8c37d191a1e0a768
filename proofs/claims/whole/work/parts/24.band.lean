def g_band (s : St) (c p : Nat) (x d : Int32) : Int32 × St := if d = 0 ∨ d = 1 then (if s_lost s p = true then (-11, f_caus s 1) else if 0 ≤ x.toInt ∧ x.toInt < s_w s p then (1, S_sn s (if rHi s c p x.toInt.toNat < rLo s c p x.toInt.toNat then -1 else if d = 0 then nI (rLo s c p x.toInt.toNat) else iI (rHi s c p x.toInt.toNat))) else (-12, f_caus s 2)) else (-102, s)
def f_band (s : St) (c p x d : Int32) : Int32 × St := if (0 ≤ c.toInt ∧ c.toInt < s_cn s) ∧ (0 ≤ p.toInt ∧ p.toInt ≤ 5) then g_band s c.toInt.toNat p.toInt.toNat x d else (-101, s)

set_option maxHeartbeats 4000000 in
set_option maxRecDepth 100000 in
theorem p_band {G : eG} {ad : Nat → Nat} {h : Nat → va_E} {s : St} {z : Zc} {hm : Nat → va_E} (hw : CW G ad s z hm h) (hI : Inv s) (u v x d : Int32)  : MC G M_X4_band cX4_band ad 54 [.ref (ad 0), .int u, .int v, .int x, .int d] h (PC G ad hm (.int (f_band s u v x d).1) (f_band s u v x d).2) := by
  have hcn : s_cn s ≤ 4 := hI.2.2.1
  by_cases hpc : 0 ≤ u.toInt ∧ u.toInt < s_cn s
  · obtain ⟨c, rfl, ec, lc⟩ := i_nat hpc.1
    have hc : c < s_cn s := by omega
    have hc4 : c < 4 := by omega
    have hbc := hI.2.2.2.1 c hc4
    by_cases hpp : 0 ≤ v.toInt ∧ v.toInt ≤ 5
    · obtain ⟨p, rfl, ep, lp⟩ := i_nat hpp.1
      have hp : p < 6 := by omega
      have hdp := hI.1 p hp
      have e0 : f_band s (nI c) (nI p) x d = g_band s c p x d := by unfold f_band; rw [if_pos ⟨hpc, hpp⟩, nI_tn (by omega), nI_tn (by omega)]
      rw [e0]
      have en : (nI (s_w s p) - 1).toInt = (s_w s p : Int) - 1 := by rw [nI_iI, show (1 : Int32) = iI 1 from iI_lit 1, iI_sub, iI_toInt (by omega) (by omega)]
      refine MC.of (by decide +kernel) (Nat.le_of_ble_eq_true rfl) (by dsimp only [linit, Nat.reduceSub, List.reduceReplicate] <;> rfl) ?_
      refine EV.aload_n (pc := 0) dX4_band_0 rfl ?_
      refine EV.iload_n (pc := 1) dX4_band_1 rfl ?_
      refine EV.callVR1 (pc := 2) (M' := M_X4_combOf) dX4_band_2 lkX4_122 okV_X4_combOf (m_combOf c hw hc hcn) (by decide) rfl rfl (Nat.le_of_ble_eq_true rfl) (by decide) hw.h0 ?_
      refine EV.astore (pc := 5) dX4_band_5 (by decide) (by dsimp only [lst1, lk] <;> rfl) ?_
      refine EV.aload_n (pc := 7) dX4_band_7 rfl ?_
      refine EV.iload_n (pc := 8) dX4_band_8 rfl ?_
      refine EV.callVR1 (pc := 9) (M' := M_X4_plateOf) dX4_band_9 lkX4_55 okV_X4_plateOf (m_plateOf p hw hp) (by decide) rfl rfl (Nat.le_of_ble_eq_true rfl) (by decide) hw.h0 ?_
      refine EV.astore (pc := 12) dX4_band_12 (by decide) (by dsimp only [lst1, lk] <;> rfl) ?_
      refine EV.aload (pc := 14) dX4_band_14 rfl ?_
      refine EV.ifnull (pc := 16) dX4_band_16 ?_
      refine EV.aload (pc := 19) dX4_band_19 rfl ?_
      refine EV.ifnonnull (pc := 21) (tgt := 27) dX4_band_21 (by decide) ?_
      refine EV.iload (pc := 27) dX4_band_27 rfl ?_
      refine EV.if_eq (pc := 29) (tgt := 41) dX4_band_29 (by decide) (fun c29 => ?_) (fun c29 => ?_)
      · have hd0 : d = 0 ∨ d = 1 := by first | exact Or.inl c29 | exact Or.inr c35
        refine EV.aload (pc := 41) dX4_band_41 rfl ?_
        refine EV.getf (pc := 43) dX4_band_43 fgX4_71 (show 10 + 2 * p < 54 by omega) (hw.pl' hp) rfl ?_
        refine EV.if_eq (pc := 46) (tgt := 55) dX4_band_46 (by decide) (fun c46 => ?_) (fun c46 => ?_)
        · replace c46 := b2i_eq c46
          refine EV.iload_n (pc := 55) dX4_band_55 rfl ?_
          refine EV.iconst (pc := 56) (v := 0) dX4_band_56 (by decide) ?_
          refine EV.aload (pc := 57) dX4_band_57 rfl ?_
          refine EV.getf (pc := 59) dX4_band_59 fgX4_93 (show 10 + 2 * p < 54 by omega) (hw.pl' hp) rfl ?_
          refine EV.iconst (pc := 62) (v := 1) dX4_band_62 (by decide) ?_
          refine EV.isub (pc := 63) dX4_band_63 ?_
          refine EV.callSR1 (pc := 64) (M' := M_X4_within) dX4_band_64 lkX4_106 okS_X4_within (m_within _ _ _) (by decide) rfl rfl (Nat.le_of_ble_eq_true rfl) ?_
          refine EV.if_ne (pc := 67) (tgt := 76) dX4_band_67 (by decide) (fun c67 => ?_) (fun c67 => ?_)
          · replace c67 := b2i_T c67
            simp only [i_l0, en] at c67
            obtain ⟨x1, rfl, ex1, lx1⟩ := i_nat (show 0 ≤ x.toInt by omega)
            have hx : x1 < s_w s p := by omega
            have r1 := rLo_in hI hc4 hp hx
            have r2 := rHi_in hI hc4 hp hx
            refine EV.aload (pc := 76) dX4_band_76 rfl ?_
            refine EV.iload_n (pc := 78) dX4_band_78 rfl ?_
            refine EV.aload (pc := 79) dX4_band_79 rfl ?_
            refine EV.callVR1 (pc := 81) (M' := M_X0_leastRow) dX4_band_81 lkX4_130 okV_X0_leastRow (m_leastRow (22 + 3 * c) (10 + 2 * p) _ _ _ (b2i (s_lost s p)) (nI (s_lane s p)) (s_ca s c) (s_cb s c) (s_cr s c) (s_co s c) x1 (s_w s p) (s_h s p) (by omega) (by omega) hbc.1 hbc.2.1 hbc.2.2.1 hx hdp.1 hdp.2.1 (hw.kb' hc4) (hw.pl' hp)) (by decide) rfl rfl (Nat.le_of_ble_eq_true rfl) (show 22 + 3 * c < 54 by omega) (hw.kb' hc4) ?_
            refine EV.topi (y := nI (rLo s c p x1)) (by rw [r1.1, nI_iI]) ?_
            refine EV.istore (pc := 84) dX4_band_84 (by decide) (by dsimp only [lst1, lk] <;> rfl) ?_
            refine EV.aload (pc := 86) dX4_band_86 rfl ?_
            refine EV.iload_n (pc := 88) dX4_band_88 rfl ?_
            refine EV.aload (pc := 89) dX4_band_89 rfl ?_
            refine EV.callVR1 (pc := 91) (M' := M_X0_greatestRow) dX4_band_91 lkX4_134 okV_X0_greatestRow (m_greatestRow (22 + 3 * c) (10 + 2 * p) _ _ _ (b2i (s_lost s p)) (nI (s_lane s p)) (s_ca s c) (s_cb s c) (s_cr s c) (s_co s c) x1 (s_w s p) (s_h s p) (by omega) (by omega) hbc.1 hbc.2.1 hbc.2.2.1 hx hdp.1 hdp.2.1 (hw.kb' hc4) (hw.pl' hp)) (by decide) rfl rfl (Nat.le_of_ble_eq_true rfl) (show 22 + 3 * c < 54 by omega) (hw.kb' hc4) ?_
            refine EV.topi (y := iI (rHi s c p x1)) rfl ?_
            refine EV.istore (pc := 94) dX4_band_94 (by decide) (by dsimp only [lst1, lk] <;> rfl) ?_
            refine EV.iload (pc := 96) dX4_band_96 rfl ?_
            refine EV.iload (pc := 98) dX4_band_98 rfl ?_
            refine EV.icmp_le (pc := 100) (tgt := 111) dX4_band_100 (by decide) (fun c100 => ?_) (fun c100 => ?_)
            · refine EV.aload_n (pc := 111) dX4_band_111 rfl ?_
              refine EV.iload (pc := 112) dX4_band_112 rfl ?_
              refine EV.if_ne (pc := 114) (tgt := 122) dX4_band_114 (by decide) (fun c114 => ?_) (fun c114 => ?_)
              · refine EV.iload (pc := 122) dX4_band_122 rfl ?_
                refine EV.putf (pc := 124) dX4_band_124 fpX4_103 (by decide) hw.h0 rfl rfl (Nat.le_of_ble_eq_true rfl) ?_
                refine EV.abs (Pr := CW G ad (S_sn s (if rHi s c p x1 < rLo s c p x1 then -1 else if d = 0 then nI (rLo s c p x1) else iI (rHi s c p x1))) z hm) (by
              rw [nI_iI, iI_le (by omega) (by omega) (by omega) (by omega)] at c100; rw [if_neg (by omega)]; first | rw [if_pos c114] | rw [if_neg c114]
              exact hw.set_sn _) (fun h hw => ?_)
                refine EV.iconst (pc := 127) (v := 1) dX4_band_127 (by decide) ?_
                refine EV.iret (pc := 128) dX4_band_128 trivial ?_
                exact PC.i (by unfold g_band; rw [if_pos hd0, if_neg (by simp [c46]), if_pos (by omega), nI_tn (by omega)]) hw
              · refine EV.iload (pc := 117) dX4_band_117 rfl ?_
                refine EV.goto (pc := 119) (tgt := 124) dX4_band_119 (by decide) ?_
                refine EV.putf (pc := 124) dX4_band_124 fpX4_103 (by decide) hw.h0 rfl rfl (Nat.le_of_ble_eq_true rfl) ?_
                refine EV.abs (Pr := CW G ad (S_sn s (if rHi s c p x1 < rLo s c p x1 then -1 else if d = 0 then nI (rLo s c p x1) else iI (rHi s c p x1))) z hm) (by
              rw [nI_iI, iI_le (by omega) (by omega) (by omega) (by omega)] at c100; rw [if_neg (by omega)]; first | rw [if_pos c114] | rw [if_neg c114]
              exact hw.set_sn _) (fun h hw => ?_)
                refine EV.iconst (pc := 127) (v := 1) dX4_band_127 (by decide) ?_
                refine EV.iret (pc := 128) dX4_band_128 trivial ?_
                exact PC.i (by unfold g_band; rw [if_pos hd0, if_neg (by simp [c46]), if_pos (by omega), nI_tn (by omega)]) hw
            · refine EV.aload_n (pc := 103) dX4_band_103 rfl ?_
              refine EV.iconst (pc := 104) (v := -1) dX4_band_104 (by decide) ?_
              refine EV.putf (pc := 105) dX4_band_105 fpX4_103 (by decide) hw.h0 rfl rfl (Nat.le_of_ble_eq_true rfl) ?_
              refine EV.abs (Pr := CW G ad (S_sn s (if rHi s c p x1 < rLo s c p x1 then -1 else if d = 0 then nI (rLo s c p x1) else iI (rHi s c p x1))) z hm) (by
              rw [if_pos (by rw [nI_iI, iI_le (by omega) (by omega) (by omega) (by omega)] at c100; omega)]
              exact hw.set_sn _) (fun h hw => ?_)
              refine EV.goto (pc := 108) (tgt := 127) dX4_band_108 (by decide) ?_
              refine EV.iconst (pc := 127) (v := 1) dX4_band_127 (by decide) ?_
              refine EV.iret (pc := 128) dX4_band_128 trivial ?_
              exact PC.i (by unfold g_band; rw [if_pos hd0, if_neg (by simp [c46]), if_pos (by omega), nI_tn (by omega)]) hw
          · replace c67 := b2i_F c67
            refine EV.aload_n (pc := 70) dX4_band_70 rfl ?_
            refine EV.iconst (pc := 71) (v := 2) dX4_band_71 (by decide) ?_
            refine EV.callVPi (pc := 72) (M' := M_X4_caused) dX4_band_72 lkX4_63 okV_X4_caused (m_caused 2 hw (by omega)) (by decide) rfl rfl (Nat.le_of_ble_eq_true rfl) (by decide) hw.h0 (fun h hw => ?_)
            refine EV.topi (y := -12) (by decide +kernel) ?_
            refine EV.iret (pc := 75) dX4_band_75 trivial ?_
            simp only [i_l0, en] at c67
            exact PC.i (by unfold g_band; rw [if_pos hd0, if_neg (by simp [c46]), if_neg (by omega)]) hw
        · replace c46 := b2i_ne c46
          refine EV.aload_n (pc := 49) dX4_band_49 rfl ?_
          refine EV.iconst (pc := 50) (v := 1) dX4_band_50 (by decide) ?_
          refine EV.callVPi (pc := 51) (M' := M_X4_caused) dX4_band_51 lkX4_63 okV_X4_caused (m_caused 1 hw (by omega)) (by decide) rfl rfl (Nat.le_of_ble_eq_true rfl) (by decide) hw.h0 (fun h hw => ?_)
          refine EV.topi (y := -11) (by decide +kernel) ?_
          refine EV.iret (pc := 54) dX4_band_54 trivial ?_
          exact PC.i (by unfold g_band; rw [if_pos hd0, if_pos c46]) hw
      · refine EV.iload (pc := 32) dX4_band_32 rfl ?_
        refine EV.iconst (pc := 34) (v := 1) dX4_band_34 (by decide) ?_
        refine EV.icmp_eq (pc := 35) (tgt := 41) dX4_band_35 (by decide) (fun c35 => ?_) (fun c35 => ?_)
        · have hd0 : d = 0 ∨ d = 1 := by first | exact Or.inl c29 | exact Or.inr c35
          refine EV.aload (pc := 41) dX4_band_41 rfl ?_
          refine EV.getf (pc := 43) dX4_band_43 fgX4_71 (show 10 + 2 * p < 54 by omega) (hw.pl' hp) rfl ?_
          refine EV.if_eq (pc := 46) (tgt := 55) dX4_band_46 (by decide) (fun c46 => ?_) (fun c46 => ?_)
          · replace c46 := b2i_eq c46
            refine EV.iload_n (pc := 55) dX4_band_55 rfl ?_
            refine EV.iconst (pc := 56) (v := 0) dX4_band_56 (by decide) ?_
            refine EV.aload (pc := 57) dX4_band_57 rfl ?_
            refine EV.getf (pc := 59) dX4_band_59 fgX4_93 (show 10 + 2 * p < 54 by omega) (hw.pl' hp) rfl ?_
            refine EV.iconst (pc := 62) (v := 1) dX4_band_62 (by decide) ?_
            refine EV.isub (pc := 63) dX4_band_63 ?_
            refine EV.callSR1 (pc := 64) (M' := M_X4_within) dX4_band_64 lkX4_106 okS_X4_within (m_within _ _ _) (by decide) rfl rfl (Nat.le_of_ble_eq_true rfl) ?_
            refine EV.if_ne (pc := 67) (tgt := 76) dX4_band_67 (by decide) (fun c67 => ?_) (fun c67 => ?_)
            · replace c67 := b2i_T c67
              simp only [i_l0, en] at c67
              obtain ⟨x1, rfl, ex1, lx1⟩ := i_nat (show 0 ≤ x.toInt by omega)
              have hx : x1 < s_w s p := by omega
              have r1 := rLo_in hI hc4 hp hx
              have r2 := rHi_in hI hc4 hp hx
              refine EV.aload (pc := 76) dX4_band_76 rfl ?_
              refine EV.iload_n (pc := 78) dX4_band_78 rfl ?_
              refine EV.aload (pc := 79) dX4_band_79 rfl ?_
              refine EV.callVR1 (pc := 81) (M' := M_X0_leastRow) dX4_band_81 lkX4_130 okV_X0_leastRow (m_leastRow (22 + 3 * c) (10 + 2 * p) _ _ _ (b2i (s_lost s p)) (nI (s_lane s p)) (s_ca s c) (s_cb s c) (s_cr s c) (s_co s c) x1 (s_w s p) (s_h s p) (by omega) (by omega) hbc.1 hbc.2.1 hbc.2.2.1 hx hdp.1 hdp.2.1 (hw.kb' hc4) (hw.pl' hp)) (by decide) rfl rfl (Nat.le_of_ble_eq_true rfl) (show 22 + 3 * c < 54 by omega) (hw.kb' hc4) ?_
              refine EV.topi (y := nI (rLo s c p x1)) (by rw [r1.1, nI_iI]) ?_
              refine EV.istore (pc := 84) dX4_band_84 (by decide) (by dsimp only [lst1, lk] <;> rfl) ?_
              refine EV.aload (pc := 86) dX4_band_86 rfl ?_
              refine EV.iload_n (pc := 88) dX4_band_88 rfl ?_
              refine EV.aload (pc := 89) dX4_band_89 rfl ?_
              refine EV.callVR1 (pc := 91) (M' := M_X0_greatestRow) dX4_band_91 lkX4_134 okV_X0_greatestRow (m_greatestRow (22 + 3 * c) (10 + 2 * p) _ _ _ (b2i (s_lost s p)) (nI (s_lane s p)) (s_ca s c) (s_cb s c) (s_cr s c) (s_co s c) x1 (s_w s p) (s_h s p) (by omega) (by omega) hbc.1 hbc.2.1 hbc.2.2.1 hx hdp.1 hdp.2.1 (hw.kb' hc4) (hw.pl' hp)) (by decide) rfl rfl (Nat.le_of_ble_eq_true rfl) (show 22 + 3 * c < 54 by omega) (hw.kb' hc4) ?_
              refine EV.topi (y := iI (rHi s c p x1)) rfl ?_
              refine EV.istore (pc := 94) dX4_band_94 (by decide) (by dsimp only [lst1, lk] <;> rfl) ?_
              refine EV.iload (pc := 96) dX4_band_96 rfl ?_
              refine EV.iload (pc := 98) dX4_band_98 rfl ?_
              refine EV.icmp_le (pc := 100) (tgt := 111) dX4_band_100 (by decide) (fun c100 => ?_) (fun c100 => ?_)
              · refine EV.aload_n (pc := 111) dX4_band_111 rfl ?_
                refine EV.iload (pc := 112) dX4_band_112 rfl ?_
                refine EV.if_ne (pc := 114) (tgt := 122) dX4_band_114 (by decide) (fun c114 => ?_) (fun c114 => ?_)
                · refine EV.iload (pc := 122) dX4_band_122 rfl ?_
                  refine EV.putf (pc := 124) dX4_band_124 fpX4_103 (by decide) hw.h0 rfl rfl (Nat.le_of_ble_eq_true rfl) ?_
                  refine EV.abs (Pr := CW G ad (S_sn s (if rHi s c p x1 < rLo s c p x1 then -1 else if d = 0 then nI (rLo s c p x1) else iI (rHi s c p x1))) z hm) (by
              rw [nI_iI, iI_le (by omega) (by omega) (by omega) (by omega)] at c100; rw [if_neg (by omega)]; first | rw [if_pos c114] | rw [if_neg c114]
              exact hw.set_sn _) (fun h hw => ?_)
                  refine EV.iconst (pc := 127) (v := 1) dX4_band_127 (by decide) ?_
                  refine EV.iret (pc := 128) dX4_band_128 trivial ?_
                  exact PC.i (by unfold g_band; rw [if_pos hd0, if_neg (by simp [c46]), if_pos (by omega), nI_tn (by omega)]) hw
                · refine EV.iload (pc := 117) dX4_band_117 rfl ?_
                  refine EV.goto (pc := 119) (tgt := 124) dX4_band_119 (by decide) ?_
                  refine EV.putf (pc := 124) dX4_band_124 fpX4_103 (by decide) hw.h0 rfl rfl (Nat.le_of_ble_eq_true rfl) ?_
                  refine EV.abs (Pr := CW G ad (S_sn s (if rHi s c p x1 < rLo s c p x1 then -1 else if d = 0 then nI (rLo s c p x1) else iI (rHi s c p x1))) z hm) (by
              rw [nI_iI, iI_le (by omega) (by omega) (by omega) (by omega)] at c100; rw [if_neg (by omega)]; first | rw [if_pos c114] | rw [if_neg c114]
              exact hw.set_sn _) (fun h hw => ?_)
                  refine EV.iconst (pc := 127) (v := 1) dX4_band_127 (by decide) ?_
                  refine EV.iret (pc := 128) dX4_band_128 trivial ?_
                  exact PC.i (by unfold g_band; rw [if_pos hd0, if_neg (by simp [c46]), if_pos (by omega), nI_tn (by omega)]) hw
              · refine EV.aload_n (pc := 103) dX4_band_103 rfl ?_
                refine EV.iconst (pc := 104) (v := -1) dX4_band_104 (by decide) ?_
                refine EV.putf (pc := 105) dX4_band_105 fpX4_103 (by decide) hw.h0 rfl rfl (Nat.le_of_ble_eq_true rfl) ?_
                refine EV.abs (Pr := CW G ad (S_sn s (if rHi s c p x1 < rLo s c p x1 then -1 else if d = 0 then nI (rLo s c p x1) else iI (rHi s c p x1))) z hm) (by
              rw [if_pos (by rw [nI_iI, iI_le (by omega) (by omega) (by omega) (by omega)] at c100; omega)]
              exact hw.set_sn _) (fun h hw => ?_)
                refine EV.goto (pc := 108) (tgt := 127) dX4_band_108 (by decide) ?_
                refine EV.iconst (pc := 127) (v := 1) dX4_band_127 (by decide) ?_
                refine EV.iret (pc := 128) dX4_band_128 trivial ?_
                exact PC.i (by unfold g_band; rw [if_pos hd0, if_neg (by simp [c46]), if_pos (by omega), nI_tn (by omega)]) hw
            · replace c67 := b2i_F c67
              refine EV.aload_n (pc := 70) dX4_band_70 rfl ?_
              refine EV.iconst (pc := 71) (v := 2) dX4_band_71 (by decide) ?_
              refine EV.callVPi (pc := 72) (M' := M_X4_caused) dX4_band_72 lkX4_63 okV_X4_caused (m_caused 2 hw (by omega)) (by decide) rfl rfl (Nat.le_of_ble_eq_true rfl) (by decide) hw.h0 (fun h hw => ?_)
              refine EV.topi (y := -12) (by decide +kernel) ?_
              refine EV.iret (pc := 75) dX4_band_75 trivial ?_
              simp only [i_l0, en] at c67
              exact PC.i (by unfold g_band; rw [if_pos hd0, if_neg (by simp [c46]), if_neg (by omega)]) hw
          · replace c46 := b2i_ne c46
            refine EV.aload_n (pc := 49) dX4_band_49 rfl ?_
            refine EV.iconst (pc := 50) (v := 1) dX4_band_50 (by decide) ?_
            refine EV.callVPi (pc := 51) (M' := M_X4_caused) dX4_band_51 lkX4_63 okV_X4_caused (m_caused 1 hw (by omega)) (by decide) rfl rfl (Nat.le_of_ble_eq_true rfl) (by decide) hw.h0 (fun h hw => ?_)
            refine EV.topi (y := -11) (by decide +kernel) ?_
            refine EV.iret (pc := 54) dX4_band_54 trivial ?_
            exact PC.i (by unfold g_band; rw [if_pos hd0, if_pos c46]) hw
        · refine EV.bipush (pc := 38) (v := -102) dX4_band_38 (by decide) ?_
          refine EV.iret (pc := 40) dX4_band_40 trivial ?_
          exact PC.i (by unfold g_band; rw [if_neg (by intro q; rcases q with q | q <;> contradiction)]) hw
    · have e0 : f_band s (nI c) v x d = (-101, s) := by unfold f_band; rw [if_neg (fun q => hpp q.2)]
      rw [e0]
      refine MC.of (by decide +kernel) (Nat.le_of_ble_eq_true rfl) (by dsimp only [linit, Nat.reduceSub, List.reduceReplicate] <;> rfl) ?_
      refine EV.aload_n (pc := 0) dX4_band_0 rfl ?_
      refine EV.iload_n (pc := 1) dX4_band_1 rfl ?_
      refine EV.callVR1 (pc := 2) (M' := M_X4_combOf) dX4_band_2 lkX4_122 okV_X4_combOf (m_combOf c hw hc hcn) (by decide) rfl rfl (Nat.le_of_ble_eq_true rfl) (by decide) hw.h0 ?_
      refine EV.astore (pc := 5) dX4_band_5 (by decide) (by dsimp only [lst1, lk] <;> rfl) ?_
      refine EV.aload_n (pc := 7) dX4_band_7 rfl ?_
      refine EV.iload_n (pc := 8) dX4_band_8 rfl ?_
      refine EV.callVR1 (pc := 9) (M' := M_X4_plateOf) dX4_band_9 lkX4_55 okV_X4_plateOf (m_plateOfN v hw hpp) (by decide) rfl rfl (Nat.le_of_ble_eq_true rfl) (by decide) hw.h0 ?_
      refine EV.astoreN (pc := 12) dX4_band_12 (by decide) (by dsimp only [lst1, lk] <;> rfl) ?_
      refine EV.aload (pc := 14) dX4_band_14 rfl ?_
      refine EV.ifnull (pc := 16) dX4_band_16 ?_
      refine EV.aloadN (pc := 19) dX4_band_19 rfl ?_
      refine EV.ifnonnullN (pc := 21) dX4_band_21 ?_
      refine EV.bipush (pc := 24) (v := -101) dX4_band_24 (by decide) ?_
      exact EV.iret (pc := 26) dX4_band_26 trivial ⟨rfl, z, hw⟩
  · by_cases hpp : 0 ≤ v.toInt ∧ v.toInt ≤ 5
    · obtain ⟨p, rfl, ep, lp⟩ := i_nat hpp.1
      have hp : p < 6 := by omega
      have hdp := hI.1 p hp
      have e0 : f_band s u (nI p) x d = (-101, s) := by unfold f_band; rw [if_neg (fun q => hpc q.1)]
      rw [e0]
      refine MC.of (by decide +kernel) (Nat.le_of_ble_eq_true rfl) (by dsimp only [linit, Nat.reduceSub, List.reduceReplicate] <;> rfl) ?_
      refine EV.aload_n (pc := 0) dX4_band_0 rfl ?_
      refine EV.iload_n (pc := 1) dX4_band_1 rfl ?_
      refine EV.callVR1 (pc := 2) (M' := M_X4_combOf) dX4_band_2 lkX4_122 okV_X4_combOf (m_combOfN u hw hpc hcn) (by decide) rfl rfl (Nat.le_of_ble_eq_true rfl) (by decide) hw.h0 ?_
      refine EV.astoreN (pc := 5) dX4_band_5 (by decide) (by dsimp only [lst1, lk] <;> rfl) ?_
      refine EV.aload_n (pc := 7) dX4_band_7 rfl ?_
      refine EV.iload_n (pc := 8) dX4_band_8 rfl ?_
      refine EV.callVR1 (pc := 9) (M' := M_X4_plateOf) dX4_band_9 lkX4_55 okV_X4_plateOf (m_plateOf p hw hp) (by decide) rfl rfl (Nat.le_of_ble_eq_true rfl) (by decide) hw.h0 ?_
      refine EV.astore (pc := 12) dX4_band_12 (by decide) (by dsimp only [lst1, lk] <;> rfl) ?_
      refine EV.aloadN (pc := 14) dX4_band_14 rfl ?_
      refine EV.ifnullN (pc := 16) (tgt := 24) dX4_band_16 (by decide) ?_
      refine EV.bipush (pc := 24) (v := -101) dX4_band_24 (by decide) ?_
      exact EV.iret (pc := 26) dX4_band_26 trivial ⟨rfl, z, hw⟩
    · have e0 : f_band s u v x d = (-101, s) := by unfold f_band; rw [if_neg (fun q => hpc q.1)]
      rw [e0]
      refine MC.of (by decide +kernel) (Nat.le_of_ble_eq_true rfl) (by dsimp only [linit, Nat.reduceSub, List.reduceReplicate] <;> rfl) ?_
      refine EV.aload_n (pc := 0) dX4_band_0 rfl ?_
      refine EV.iload_n (pc := 1) dX4_band_1 rfl ?_
      refine EV.callVR1 (pc := 2) (M' := M_X4_combOf) dX4_band_2 lkX4_122 okV_X4_combOf (m_combOfN u hw hpc hcn) (by decide) rfl rfl (Nat.le_of_ble_eq_true rfl) (by decide) hw.h0 ?_
      refine EV.astoreN (pc := 5) dX4_band_5 (by decide) (by dsimp only [lst1, lk] <;> rfl) ?_
      refine EV.aload_n (pc := 7) dX4_band_7 rfl ?_
      refine EV.iload_n (pc := 8) dX4_band_8 rfl ?_
      refine EV.callVR1 (pc := 9) (M' := M_X4_plateOf) dX4_band_9 lkX4_55 okV_X4_plateOf (m_plateOfN v hw hpp) (by decide) rfl rfl (Nat.le_of_ble_eq_true rfl) (by decide) hw.h0 ?_
      refine EV.astoreN (pc := 12) dX4_band_12 (by decide) (by dsimp only [lst1, lk] <;> rfl) ?_
      refine EV.aloadN (pc := 14) dX4_band_14 rfl ?_
      refine EV.ifnullN (pc := 16) (tgt := 24) dX4_band_16 (by decide) ?_
      refine EV.bipush (pc := 24) (v := -101) dX4_band_24 (by decide) ?_
      exact EV.iret (pc := 26) dX4_band_26 trivial ⟨rfl, z, hw⟩

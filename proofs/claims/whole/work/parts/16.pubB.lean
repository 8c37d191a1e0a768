theorem va_up_id {α : Type} (f : Nat → α) (k : Nat) : va_up f k (f k) = f := by funext j; simp only [va_up]; split <;> simp_all
theorem CW.set_abr {G : eG} {ad : Nat → Nat} {s : St} {z : Zc} {hm h : Nat → va_E} (hw : CW G ad s z hm h) (p : Nat) (a b r : Nat) (hp : p < 4) : CW G ad (S_cr (S_cb (S_ca s (va_up (s_ca s) p a)) (va_up (s_cb s) p b)) (va_up (s_cr s) p r)) z hm (va_up h (22 + 3 * p) (.inr (0, [.int (nI a), .int (nI b), .int (nI r), .int (nI (s_co s p)), .ref (ad (23 + 3 * p)), .ref (ad (24 + 3 * p))]))) := by
  refine ⟨?_, ?_, ?_, ?_, ?_, ?_, ?_, ?_, ?_, ?_, ?_, ?_, ?_, ?_, ?_, ?_⟩
  · exact (va_up_n (by omega)).trans hw.h0
  · exact (va_up_n (by omega)).trans hw.h1
  · exact (va_up_n (by omega)).trans hw.h2
  · exact (va_up_n (by omega)).trans hw.h3
  · exact (va_up_n (by omega)).trans hw.h4
  · exact (va_up_n (by omega)).trans hw.h5
  · exact (va_up_n (by omega)).trans hw.h6
  · exact (va_up_n (by omega)).trans hw.h7
  · exact (va_up_n (by omega)).trans hw.h8
  · exact (va_up_n (by omega)).trans hw.h9
  · exact fun j hj => (va_up_n (by omega)).trans (hw.pl j hj)
  · exact fun j hj => (va_up_n (by omega)).trans (hw.ct j hj)
  · exact (by
    intro q hq
    by_cases e : q = p
    · subst e; rw [va_up_s]; simp [oK, va_up, s_lost, s_lane, s_w, s_h, s_ct, s_bad, s_cn, s_ca, s_cb, s_cr, s_co, s_nm, s_li, s_lA, s_lB, s_lF, s_lc, s_ln, s_gc, s_gr, s_sn, s_cs, s_cc, s_md, S_lost, S_lane, S_w, S_h, S_ct, S_bad, S_cn, S_ca, S_cb, S_cr, S_co, S_nm, S_li, S_lA, S_lB, S_lF, S_lc, S_ln, S_gc, S_gr, S_sn, S_cs, S_cc, S_md, c_pp, c_sr, c_sl, c_sf, c_sq, c_sp, c_bi, c_ba, c_bb, c_bf, C_pp, C_sr, C_sl, C_sf, C_sq, C_sp, C_bi, C_ba, C_bb, C_bf, m_pm, m_pp, m_mo, m_bA, m_bB, m_hh, m_jA, m_jB, m_jF, M_pm, M_pp, M_mo, M_bA, M_bB, M_hh, M_jA, M_jB, M_jF]
    · rw [va_up_n (by omega), hw.kb q hq]; simp [va_up, e, oK, s_lost, s_lane, s_w, s_h, s_ct, s_bad, s_cn, s_ca, s_cb, s_cr, s_co, s_nm, s_li, s_lA, s_lB, s_lF, s_lc, s_ln, s_gc, s_gr, s_sn, s_cs, s_cc, s_md, S_lost, S_lane, S_w, S_h, S_ct, S_bad, S_cn, S_ca, S_cb, S_cr, S_co, S_nm, S_li, S_lA, S_lB, S_lF, S_lc, S_ln, S_gc, S_gr, S_sn, S_cs, S_cc, S_md, c_pp, c_sr, c_sl, c_sf, c_sq, c_sp, c_bi, c_ba, c_bb, c_bf, C_pp, C_sr, C_sl, C_sf, C_sq, C_sp, C_bi, C_ba, C_bb, C_bf, m_pm, m_pp, m_mo, m_bA, m_bB, m_hh, m_jA, m_jB, m_jF, M_pm, M_pp, M_mo, M_bA, M_bB, M_hh, M_jA, M_jB, M_jF])
  · exact fun j hj => (va_up_n (by omega)).trans (hw.nm j hj)
  · exact fun j hj => (va_up_n (by omega)).trans (hw.lw j hj)
  · exact fun j hj => (va_up_n (by omega)).trans (hw.fr j hj)
theorem CW.set_a {G : eG} {ad : Nat → Nat} {s : St} {z : Zc} {hm h : Nat → va_E} (hw : CW G ad s z hm h) (p : Nat) (a : Nat) (hp : p < 4) : CW G ad (S_ca s (va_up (s_ca s) p a)) z hm (va_up h (22 + 3 * p) (.inr (0, [.int (nI a), .int (nI (s_cb s p)), .int (nI (s_cr s p)), .int (nI (s_co s p)), .ref (ad (23 + 3 * p)), .ref (ad (24 + 3 * p))]))) := by
  refine ⟨?_, ?_, ?_, ?_, ?_, ?_, ?_, ?_, ?_, ?_, ?_, ?_, ?_, ?_, ?_, ?_⟩
  · exact (va_up_n (by omega)).trans hw.h0
  · exact (va_up_n (by omega)).trans hw.h1
  · exact (va_up_n (by omega)).trans hw.h2
  · exact (va_up_n (by omega)).trans hw.h3
  · exact (va_up_n (by omega)).trans hw.h4
  · exact (va_up_n (by omega)).trans hw.h5
  · exact (va_up_n (by omega)).trans hw.h6
  · exact (va_up_n (by omega)).trans hw.h7
  · exact (va_up_n (by omega)).trans hw.h8
  · exact (va_up_n (by omega)).trans hw.h9
  · exact fun j hj => (va_up_n (by omega)).trans (hw.pl j hj)
  · exact fun j hj => (va_up_n (by omega)).trans (hw.ct j hj)
  · exact (by
    intro q hq
    by_cases e : q = p
    · subst e; rw [va_up_s]; simp [oK, va_up, s_lost, s_lane, s_w, s_h, s_ct, s_bad, s_cn, s_ca, s_cb, s_cr, s_co, s_nm, s_li, s_lA, s_lB, s_lF, s_lc, s_ln, s_gc, s_gr, s_sn, s_cs, s_cc, s_md, S_lost, S_lane, S_w, S_h, S_ct, S_bad, S_cn, S_ca, S_cb, S_cr, S_co, S_nm, S_li, S_lA, S_lB, S_lF, S_lc, S_ln, S_gc, S_gr, S_sn, S_cs, S_cc, S_md, c_pp, c_sr, c_sl, c_sf, c_sq, c_sp, c_bi, c_ba, c_bb, c_bf, C_pp, C_sr, C_sl, C_sf, C_sq, C_sp, C_bi, C_ba, C_bb, C_bf, m_pm, m_pp, m_mo, m_bA, m_bB, m_hh, m_jA, m_jB, m_jF, M_pm, M_pp, M_mo, M_bA, M_bB, M_hh, M_jA, M_jB, M_jF]
    · rw [va_up_n (by omega), hw.kb q hq]; simp [va_up, e, oK, s_lost, s_lane, s_w, s_h, s_ct, s_bad, s_cn, s_ca, s_cb, s_cr, s_co, s_nm, s_li, s_lA, s_lB, s_lF, s_lc, s_ln, s_gc, s_gr, s_sn, s_cs, s_cc, s_md, S_lost, S_lane, S_w, S_h, S_ct, S_bad, S_cn, S_ca, S_cb, S_cr, S_co, S_nm, S_li, S_lA, S_lB, S_lF, S_lc, S_ln, S_gc, S_gr, S_sn, S_cs, S_cc, S_md, c_pp, c_sr, c_sl, c_sf, c_sq, c_sp, c_bi, c_ba, c_bb, c_bf, C_pp, C_sr, C_sl, C_sf, C_sq, C_sp, C_bi, C_ba, C_bb, C_bf, m_pm, m_pp, m_mo, m_bA, m_bB, m_hh, m_jA, m_jB, m_jF, M_pm, M_pp, M_mo, M_bA, M_bB, M_hh, M_jA, M_jB, M_jF])
  · exact fun j hj => (va_up_n (by omega)).trans (hw.nm j hj)
  · exact fun j hj => (va_up_n (by omega)).trans (hw.lw j hj)
  · exact fun j hj => (va_up_n (by omega)).trans (hw.fr j hj)
theorem CW.set_b {G : eG} {ad : Nat → Nat} {s : St} {z : Zc} {hm h : Nat → va_E} (hw : CW G ad s z hm h) (p : Nat) (a : Nat) (hp : p < 4) : CW G ad (S_cb s (va_up (s_cb s) p a)) z hm (va_up h (22 + 3 * p) (.inr (0, [.int (nI (s_ca s p)), .int (nI a), .int (nI (s_cr s p)), .int (nI (s_co s p)), .ref (ad (23 + 3 * p)), .ref (ad (24 + 3 * p))]))) := by
  refine ⟨?_, ?_, ?_, ?_, ?_, ?_, ?_, ?_, ?_, ?_, ?_, ?_, ?_, ?_, ?_, ?_⟩
  · exact (va_up_n (by omega)).trans hw.h0
  · exact (va_up_n (by omega)).trans hw.h1
  · exact (va_up_n (by omega)).trans hw.h2
  · exact (va_up_n (by omega)).trans hw.h3
  · exact (va_up_n (by omega)).trans hw.h4
  · exact (va_up_n (by omega)).trans hw.h5
  · exact (va_up_n (by omega)).trans hw.h6
  · exact (va_up_n (by omega)).trans hw.h7
  · exact (va_up_n (by omega)).trans hw.h8
  · exact (va_up_n (by omega)).trans hw.h9
  · exact fun j hj => (va_up_n (by omega)).trans (hw.pl j hj)
  · exact fun j hj => (va_up_n (by omega)).trans (hw.ct j hj)
  · exact (by
    intro q hq
    by_cases e : q = p
    · subst e; rw [va_up_s]; simp [oK, va_up, s_lost, s_lane, s_w, s_h, s_ct, s_bad, s_cn, s_ca, s_cb, s_cr, s_co, s_nm, s_li, s_lA, s_lB, s_lF, s_lc, s_ln, s_gc, s_gr, s_sn, s_cs, s_cc, s_md, S_lost, S_lane, S_w, S_h, S_ct, S_bad, S_cn, S_ca, S_cb, S_cr, S_co, S_nm, S_li, S_lA, S_lB, S_lF, S_lc, S_ln, S_gc, S_gr, S_sn, S_cs, S_cc, S_md, c_pp, c_sr, c_sl, c_sf, c_sq, c_sp, c_bi, c_ba, c_bb, c_bf, C_pp, C_sr, C_sl, C_sf, C_sq, C_sp, C_bi, C_ba, C_bb, C_bf, m_pm, m_pp, m_mo, m_bA, m_bB, m_hh, m_jA, m_jB, m_jF, M_pm, M_pp, M_mo, M_bA, M_bB, M_hh, M_jA, M_jB, M_jF]
    · rw [va_up_n (by omega), hw.kb q hq]; simp [va_up, e, oK, s_lost, s_lane, s_w, s_h, s_ct, s_bad, s_cn, s_ca, s_cb, s_cr, s_co, s_nm, s_li, s_lA, s_lB, s_lF, s_lc, s_ln, s_gc, s_gr, s_sn, s_cs, s_cc, s_md, S_lost, S_lane, S_w, S_h, S_ct, S_bad, S_cn, S_ca, S_cb, S_cr, S_co, S_nm, S_li, S_lA, S_lB, S_lF, S_lc, S_ln, S_gc, S_gr, S_sn, S_cs, S_cc, S_md, c_pp, c_sr, c_sl, c_sf, c_sq, c_sp, c_bi, c_ba, c_bb, c_bf, C_pp, C_sr, C_sl, C_sf, C_sq, C_sp, C_bi, C_ba, C_bb, C_bf, m_pm, m_pp, m_mo, m_bA, m_bB, m_hh, m_jA, m_jB, m_jF, M_pm, M_pp, M_mo, M_bA, M_bB, M_hh, M_jA, M_jB, M_jF])
  · exact fun j hj => (va_up_n (by omega)).trans (hw.nm j hj)
  · exact fun j hj => (va_up_n (by omega)).trans (hw.lw j hj)
  · exact fun j hj => (va_up_n (by omega)).trans (hw.fr j hj)
theorem CW.set_co {G : eG} {ad : Nat → Nat} {s : St} {z : Zc} {hm h : Nat → va_E} (hw : CW G ad s z hm h) (p : Nat) (a : Nat) (hp : p < 4) : CW G ad (S_co s (va_up (s_co s) p a)) z hm (va_up h (22 + 3 * p) (.inr (0, [.int (nI (s_ca s p)), .int (nI (s_cb s p)), .int (nI (s_cr s p)), .int (nI a), .ref (ad (23 + 3 * p)), .ref (ad (24 + 3 * p))]))) := by
  refine ⟨?_, ?_, ?_, ?_, ?_, ?_, ?_, ?_, ?_, ?_, ?_, ?_, ?_, ?_, ?_, ?_⟩
  · exact (va_up_n (by omega)).trans hw.h0
  · exact (va_up_n (by omega)).trans hw.h1
  · exact (va_up_n (by omega)).trans hw.h2
  · exact (va_up_n (by omega)).trans hw.h3
  · exact (va_up_n (by omega)).trans hw.h4
  · exact (va_up_n (by omega)).trans hw.h5
  · exact (va_up_n (by omega)).trans hw.h6
  · exact (va_up_n (by omega)).trans hw.h7
  · exact (va_up_n (by omega)).trans hw.h8
  · exact (va_up_n (by omega)).trans hw.h9
  · exact fun j hj => (va_up_n (by omega)).trans (hw.pl j hj)
  · exact fun j hj => (va_up_n (by omega)).trans (hw.ct j hj)
  · exact (by
    intro q hq
    by_cases e : q = p
    · subst e; rw [va_up_s]; simp [oK, va_up, s_lost, s_lane, s_w, s_h, s_ct, s_bad, s_cn, s_ca, s_cb, s_cr, s_co, s_nm, s_li, s_lA, s_lB, s_lF, s_lc, s_ln, s_gc, s_gr, s_sn, s_cs, s_cc, s_md, S_lost, S_lane, S_w, S_h, S_ct, S_bad, S_cn, S_ca, S_cb, S_cr, S_co, S_nm, S_li, S_lA, S_lB, S_lF, S_lc, S_ln, S_gc, S_gr, S_sn, S_cs, S_cc, S_md, c_pp, c_sr, c_sl, c_sf, c_sq, c_sp, c_bi, c_ba, c_bb, c_bf, C_pp, C_sr, C_sl, C_sf, C_sq, C_sp, C_bi, C_ba, C_bb, C_bf, m_pm, m_pp, m_mo, m_bA, m_bB, m_hh, m_jA, m_jB, m_jF, M_pm, M_pp, M_mo, M_bA, M_bB, M_hh, M_jA, M_jB, M_jF]
    · rw [va_up_n (by omega), hw.kb q hq]; simp [va_up, e, oK, s_lost, s_lane, s_w, s_h, s_ct, s_bad, s_cn, s_ca, s_cb, s_cr, s_co, s_nm, s_li, s_lA, s_lB, s_lF, s_lc, s_ln, s_gc, s_gr, s_sn, s_cs, s_cc, s_md, S_lost, S_lane, S_w, S_h, S_ct, S_bad, S_cn, S_ca, S_cb, S_cr, S_co, S_nm, S_li, S_lA, S_lB, S_lF, S_lc, S_ln, S_gc, S_gr, S_sn, S_cs, S_cc, S_md, c_pp, c_sr, c_sl, c_sf, c_sq, c_sp, c_bi, c_ba, c_bb, c_bf, C_pp, C_sr, C_sl, C_sf, C_sq, C_sp, C_bi, C_ba, C_bb, C_bf, m_pm, m_pp, m_mo, m_bA, m_bB, m_hh, m_jA, m_jB, m_jF, M_pm, M_pp, M_mo, M_bA, M_bB, M_hh, M_jA, M_jB, M_jF])
  · exact fun j hj => (va_up_n (by omega)).trans (hw.nm j hj)
  · exact fun j hj => (va_up_n (by omega)).trans (hw.lw j hj)
  · exact fun j hj => (va_up_n (by omega)).trans (hw.fr j hj)
set_option maxHeartbeats 4000000 in
set_option maxRecDepth 100000 in
theorem p_plate {G : eG} {ad : Nat → Nat} {h : Nat → va_E} {s : St} {z : Zc} {hm : Nat → va_E} (hw : CW G ad s z hm h) (hI : Inv s) (p : Int32) (lane w t : Int32)  : MC G M_X4_plate cX4_plate ad 54 [.ref (ad 0), .int p, .int lane, .int w, .int t] h (PC G ad hm (.int (f_plate s p lane w t).1) (f_plate s p lane w t).2) := by
  by_cases hp : 0 ≤ p.toInt ∧ p.toInt ≤ 5
  · obtain ⟨k, rfl, ek, lk⟩ := i_nat hp.1
    have hk : k < 6 := by omega
    have e0 : f_plate s (nI k) lane w t = g_plate s k lane w t := by unfold f_plate; rw [if_pos hp, nI_tn (by omega)]
    rw [e0]
    obtain ⟨hI1, hI2, hI3, hI4, hI5, hI6, hI7, hI8, hI9, hI10, hI11, hI12, hI13⟩ := hI
    have hd := hI1 k hk
    refine MC.of (by decide +kernel) (Nat.le_of_ble_eq_true rfl) (by dsimp only [linit, Nat.reduceSub, List.reduceReplicate] <;> rfl) ?_
    refine EV.aload_n (pc := 0) dX4_plate_0 rfl ?_
    refine EV.iload_n (pc := 1) dX4_plate_1 rfl ?_
    refine EV.callVR1 (pc := 2) (M' := M_X4_plateOf) dX4_plate_2 lkX4_55 okV_X4_plateOf (m_plateOf k hw hk) (by decide) rfl rfl (Nat.le_of_ble_eq_true rfl) (by decide) hw.h0 ?_
    refine EV.astore (pc := 5) dX4_plate_5 (by decide) (by dsimp only [lst1, lk] <;> rfl) ?_
    refine EV.aload (pc := 7) dX4_plate_7 rfl ?_
    refine EV.ifnonnull (pc := 9) (tgt := 15) dX4_plate_9 (by decide) ?_
    refine EV.iload_n (pc := 15) dX4_plate_15 rfl ?_
    refine EV.callSR1 (pc := 16) (M' := M_X4_isLane) dX4_plate_16 lkX4_59 okS_X4_isLane (m_isLane _) (by decide) rfl rfl (Nat.le_of_ble_eq_true rfl) ?_
    refine EV.if_eq (pc := 19) (tgt := 44) dX4_plate_19 (by decide) (fun c19 => ?_) (fun c19 => ?_)
    · replace c19 := b2i_F c19
      refine EV.bipush (pc := 44) (v := -102) dX4_plate_44 (by decide) ?_
      refine EV.iret (pc := 46) dX4_plate_46 trivial ?_
      exact PC.i (by unfold g_plate; rw [if_neg (by (try simp only [Int32.lt_iff_toInt_lt, Int32.le_iff_toInt_le, ← Int32.toInt_inj, Int64.lt_iff_toInt_lt, Int64.le_iff_toInt_le, ← Int64.toInt_inj, i_l0, i_l1, i_l2, i_l5, i_l19, i_m1, j_l0, j_l1, j_l5, Int32.toInt_toInt64] at *); (try simp only [show (20 : Int32).toInt = 20 from (by decide +kernel), show (12 : Int32).toInt = 12 from (by decide +kernel), show (4 : Int32).toInt = 4 from (by decide +kernel), show (7 : Int32).toInt = 7 from (by decide +kernel), show (3 : Int32).toInt = 3 from (by decide +kernel), show (304 : Int32).toInt = 304 from (by decide +kernel), show (1000000 : Int32).toInt = 1000000 from (by decide +kernel), show (-1000000 : Int32).toInt = -1000000 from (by decide +kernel), show (100000 : Int32).toInt = 100000 from (by decide +kernel), show (2000 : Int32).toInt = 2000 from (by decide +kernel)] at *); omega)]) hw
    · replace c19 := b2i_T c19
      refine EV.iload_n (pc := 22) dX4_plate_22 rfl ?_
      refine EV.if_eq (pc := 23) (tgt := 44) dX4_plate_23 (by decide) (fun c23 => ?_) (fun c23 => ?_)
      · refine EV.bipush (pc := 44) (v := -102) dX4_plate_44 (by decide) ?_
        refine EV.iret (pc := 46) dX4_plate_46 trivial ?_
        exact PC.i (by unfold g_plate; rw [if_neg (by (try simp only [Int32.lt_iff_toInt_lt, Int32.le_iff_toInt_le, ← Int32.toInt_inj, Int64.lt_iff_toInt_lt, Int64.le_iff_toInt_le, ← Int64.toInt_inj, i_l0, i_l1, i_l2, i_l5, i_l19, i_m1, j_l0, j_l1, j_l5, Int32.toInt_toInt64] at *); (try simp only [show (20 : Int32).toInt = 20 from (by decide +kernel), show (12 : Int32).toInt = 12 from (by decide +kernel), show (4 : Int32).toInt = 4 from (by decide +kernel), show (7 : Int32).toInt = 7 from (by decide +kernel), show (3 : Int32).toInt = 3 from (by decide +kernel), show (304 : Int32).toInt = 304 from (by decide +kernel), show (1000000 : Int32).toInt = 1000000 from (by decide +kernel), show (-1000000 : Int32).toInt = -1000000 from (by decide +kernel), show (100000 : Int32).toInt = 100000 from (by decide +kernel), show (2000 : Int32).toInt = 2000 from (by decide +kernel)] at *); omega)]) hw
      · refine EV.iload_n (pc := 26) dX4_plate_26 rfl ?_
        refine EV.bipush (pc := 27) (v := 20) dX4_plate_27 (by decide) ?_
        refine EV.icmp_gt (pc := 29) (tgt := 44) dX4_plate_29 (by decide) (fun c29 => ?_) (fun c29 => ?_)
        · refine EV.bipush (pc := 44) (v := -102) dX4_plate_44 (by decide) ?_
          refine EV.iret (pc := 46) dX4_plate_46 trivial ?_
          exact PC.i (by unfold g_plate; rw [if_neg (by (try simp only [Int32.lt_iff_toInt_lt, Int32.le_iff_toInt_le, ← Int32.toInt_inj, Int64.lt_iff_toInt_lt, Int64.le_iff_toInt_le, ← Int64.toInt_inj, i_l0, i_l1, i_l2, i_l5, i_l19, i_m1, j_l0, j_l1, j_l5, Int32.toInt_toInt64] at *); (try simp only [show (20 : Int32).toInt = 20 from (by decide +kernel), show (12 : Int32).toInt = 12 from (by decide +kernel), show (4 : Int32).toInt = 4 from (by decide +kernel), show (7 : Int32).toInt = 7 from (by decide +kernel), show (3 : Int32).toInt = 3 from (by decide +kernel), show (304 : Int32).toInt = 304 from (by decide +kernel), show (1000000 : Int32).toInt = 1000000 from (by decide +kernel), show (-1000000 : Int32).toInt = -1000000 from (by decide +kernel), show (100000 : Int32).toInt = 100000 from (by decide +kernel), show (2000 : Int32).toInt = 2000 from (by decide +kernel)] at *); omega)]) hw
        · refine EV.iload (pc := 32) dX4_plate_32 rfl ?_
          refine EV.if_eq (pc := 34) (tgt := 44) dX4_plate_34 (by decide) (fun c34 => ?_) (fun c34 => ?_)
          · refine EV.bipush (pc := 44) (v := -102) dX4_plate_44 (by decide) ?_
            refine EV.iret (pc := 46) dX4_plate_46 trivial ?_
            exact PC.i (by unfold g_plate; rw [if_neg (by (try simp only [Int32.lt_iff_toInt_lt, Int32.le_iff_toInt_le, ← Int32.toInt_inj, Int64.lt_iff_toInt_lt, Int64.le_iff_toInt_le, ← Int64.toInt_inj, i_l0, i_l1, i_l2, i_l5, i_l19, i_m1, j_l0, j_l1, j_l5, Int32.toInt_toInt64] at *); (try simp only [show (20 : Int32).toInt = 20 from (by decide +kernel), show (12 : Int32).toInt = 12 from (by decide +kernel), show (4 : Int32).toInt = 4 from (by decide +kernel), show (7 : Int32).toInt = 7 from (by decide +kernel), show (3 : Int32).toInt = 3 from (by decide +kernel), show (304 : Int32).toInt = 304 from (by decide +kernel), show (1000000 : Int32).toInt = 1000000 from (by decide +kernel), show (-1000000 : Int32).toInt = -1000000 from (by decide +kernel), show (100000 : Int32).toInt = 100000 from (by decide +kernel), show (2000 : Int32).toInt = 2000 from (by decide +kernel)] at *); omega)]) hw
          · refine EV.iload (pc := 37) dX4_plate_37 rfl ?_
            refine EV.bipush (pc := 39) (v := 20) dX4_plate_39 (by decide) ?_
            refine EV.icmp_le (pc := 41) (tgt := 47) dX4_plate_41 (by decide) (fun c41 => ?_) (fun c41 => ?_)
            · refine EV.iload_n (pc := 47) dX4_plate_47 rfl ?_
              refine EV.if_lt (pc := 48) (tgt := 56) dX4_plate_48 (by decide) (fun c48 => ?_) (fun c48 => ?_)
              · refine EV.aload_n (pc := 56) dX4_plate_56 rfl ?_
                refine EV.iconst (pc := 57) (v := 3) dX4_plate_57 (by decide) ?_
                refine EV.callVPi (pc := 58) (M' := M_X4_caused) dX4_plate_58 lkX4_63 okV_X4_caused (m_caused 3 hw (by omega)) (by decide) rfl rfl (Nat.le_of_ble_eq_true rfl) (by decide) hw.h0 (fun h hw => ?_)
                refine EV.topi (y := -13) (by decide +kernel) ?_
                refine EV.iret (pc := 61) dX4_plate_61 trivial ?_
                exact PC.i (by unfold g_plate; rw [if_pos (by (try simp only [Int32.lt_iff_toInt_lt, Int32.le_iff_toInt_le, ← Int32.toInt_inj, Int64.lt_iff_toInt_lt, Int64.le_iff_toInt_le, ← Int64.toInt_inj, i_l0, i_l1, i_l2, i_l5, i_l19, i_m1, j_l0, j_l1, j_l5, Int32.toInt_toInt64] at *); (try simp only [show (20 : Int32).toInt = 20 from (by decide +kernel), show (12 : Int32).toInt = 12 from (by decide +kernel), show (4 : Int32).toInt = 4 from (by decide +kernel), show (7 : Int32).toInt = 7 from (by decide +kernel), show (3 : Int32).toInt = 3 from (by decide +kernel), show (304 : Int32).toInt = 304 from (by decide +kernel), show (1000000 : Int32).toInt = 1000000 from (by decide +kernel), show (-1000000 : Int32).toInt = -1000000 from (by decide +kernel), show (100000 : Int32).toInt = 100000 from (by decide +kernel), show (2000 : Int32).toInt = 2000 from (by decide +kernel)] at *); omega), if_pos (by (try simp only [Int32.lt_iff_toInt_lt, Int32.le_iff_toInt_le, ← Int32.toInt_inj, Int64.lt_iff_toInt_lt, Int64.le_iff_toInt_le, ← Int64.toInt_inj, i_l0, i_l1, i_l2, i_l5, i_l19, i_m1, j_l0, j_l1, j_l5, Int32.toInt_toInt64] at *); (try simp only [show (20 : Int32).toInt = 20 from (by decide +kernel), show (12 : Int32).toInt = 12 from (by decide +kernel), show (4 : Int32).toInt = 4 from (by decide +kernel), show (7 : Int32).toInt = 7 from (by decide +kernel), show (3 : Int32).toInt = 3 from (by decide +kernel), show (304 : Int32).toInt = 304 from (by decide +kernel), show (1000000 : Int32).toInt = 1000000 from (by decide +kernel), show (-1000000 : Int32).toInt = -1000000 from (by decide +kernel), show (100000 : Int32).toInt = 100000 from (by decide +kernel), show (2000 : Int32).toInt = 2000 from (by decide +kernel)] at *); omega)]) hw
              · refine EV.iload (pc := 51) dX4_plate_51 rfl ?_
                refine EV.if_ge (pc := 53) (tgt := 62) dX4_plate_53 (by decide) (fun c53 => ?_) (fun c53 => ?_)
                · have hc := c19
                  (try simp only [Int32.lt_iff_toInt_lt, Int32.le_iff_toInt_le, ← Int32.toInt_inj, Int64.lt_iff_toInt_lt, Int64.le_iff_toInt_le, ← Int64.toInt_inj, i_l0, i_l1, i_l2, i_l5, i_l19, i_m1, j_l0, j_l1, j_l5, Int32.toInt_toInt64] at *); (try simp only [show (20 : Int32).toInt = 20 from (by decide +kernel), show (12 : Int32).toInt = 12 from (by decide +kernel), show (4 : Int32).toInt = 4 from (by decide +kernel), show (7 : Int32).toInt = 7 from (by decide +kernel), show (3 : Int32).toInt = 3 from (by decide +kernel), show (304 : Int32).toInt = 304 from (by decide +kernel), show (1000000 : Int32).toInt = 1000000 from (by decide +kernel), show (-1000000 : Int32).toInt = -1000000 from (by decide +kernel), show (100000 : Int32).toInt = 100000 from (by decide +kernel), show (2000 : Int32).toInt = 2000 from (by decide +kernel)] at *)
                  obtain ⟨l1, rfl, el1, ll1⟩ := i_nat (show 0 ≤ lane.toInt by omega)
                  obtain ⟨w1, rfl, ew1, lw1⟩ := i_nat (show 0 ≤ w.toInt by omega)
                  obtain ⟨t1, rfl, et1, lt1⟩ := i_nat (show 0 ≤ t.toInt by omega)
                  refine EV.aload (pc := 62) dX4_plate_62 rfl ?_
                  refine EV.iload_n (pc := 64) dX4_plate_64 rfl ?_
                  refine EV.iload_n (pc := 65) dX4_plate_65 rfl ?_
                  refine EV.iload (pc := 66) dX4_plate_66 rfl ?_
                  refine EV.callVR0 (pc := 68) (M' := M_X2_renew) dX4_plate_68 lkX4_67 okV_X2_renew (m_renew (10 + 2 * k) (11 + 2 * k) (b2i (s_lost s k)) (nI (s_lane s k)) (nI (s_w s k)) (nI (s_h s k)) (s_ct s k) _ _ _ (by omega) (by omega) (by omega) (hw.pl' hk) (hw.ct k hk)) (by decide) rfl rfl (Nat.le_of_ble_eq_true rfl) (show 10 + 2 * k < 54 by omega) (hw.pl' hk) ?_
                  refine EV.abs (Pr := CW G ad (S_ct (S_h (S_w (S_lane (S_lost s (va_up (s_lost s) k false)) (va_up (s_lane s) k l1)) (va_up (s_w s) k w1)) (va_up (s_h s) k t1)) (va_up (s_ct s) k (fz (s_ct s k) 400))) z hm) ((hw.set_pl k false l1 w1 t1 hk).set_ct k (fz (s_ct s k) 400) hk) (fun h hw => ?_)
                  refine EV.iload_n (pc := 71) dX4_plate_71 rfl ?_
                  refine EV.iret (pc := 72) dX4_plate_72 trivial ?_
                  exact PC.i (by unfold g_plate; rw [if_pos (by omega), if_neg (by omega), nI_tn (by omega), nI_tn (by omega), nI_tn (by omega)]) hw
                · refine EV.aload_n (pc := 56) dX4_plate_56 rfl ?_
                  refine EV.iconst (pc := 57) (v := 3) dX4_plate_57 (by decide) ?_
                  refine EV.callVPi (pc := 58) (M' := M_X4_caused) dX4_plate_58 lkX4_63 okV_X4_caused (m_caused 3 hw (by omega)) (by decide) rfl rfl (Nat.le_of_ble_eq_true rfl) (by decide) hw.h0 (fun h hw => ?_)
                  refine EV.topi (y := -13) (by decide +kernel) ?_
                  refine EV.iret (pc := 61) dX4_plate_61 trivial ?_
                  exact PC.i (by unfold g_plate; rw [if_pos (by (try simp only [Int32.lt_iff_toInt_lt, Int32.le_iff_toInt_le, ← Int32.toInt_inj, Int64.lt_iff_toInt_lt, Int64.le_iff_toInt_le, ← Int64.toInt_inj, i_l0, i_l1, i_l2, i_l5, i_l19, i_m1, j_l0, j_l1, j_l5, Int32.toInt_toInt64] at *); (try simp only [show (20 : Int32).toInt = 20 from (by decide +kernel), show (12 : Int32).toInt = 12 from (by decide +kernel), show (4 : Int32).toInt = 4 from (by decide +kernel), show (7 : Int32).toInt = 7 from (by decide +kernel), show (3 : Int32).toInt = 3 from (by decide +kernel), show (304 : Int32).toInt = 304 from (by decide +kernel), show (1000000 : Int32).toInt = 1000000 from (by decide +kernel), show (-1000000 : Int32).toInt = -1000000 from (by decide +kernel), show (100000 : Int32).toInt = 100000 from (by decide +kernel), show (2000 : Int32).toInt = 2000 from (by decide +kernel)] at *); omega), if_pos (by (try simp only [Int32.lt_iff_toInt_lt, Int32.le_iff_toInt_le, ← Int32.toInt_inj, Int64.lt_iff_toInt_lt, Int64.le_iff_toInt_le, ← Int64.toInt_inj, i_l0, i_l1, i_l2, i_l5, i_l19, i_m1, j_l0, j_l1, j_l5, Int32.toInt_toInt64] at *); (try simp only [show (20 : Int32).toInt = 20 from (by decide +kernel), show (12 : Int32).toInt = 12 from (by decide +kernel), show (4 : Int32).toInt = 4 from (by decide +kernel), show (7 : Int32).toInt = 7 from (by decide +kernel), show (3 : Int32).toInt = 3 from (by decide +kernel), show (304 : Int32).toInt = 304 from (by decide +kernel), show (1000000 : Int32).toInt = 1000000 from (by decide +kernel), show (-1000000 : Int32).toInt = -1000000 from (by decide +kernel), show (100000 : Int32).toInt = 100000 from (by decide +kernel), show (2000 : Int32).toInt = 2000 from (by decide +kernel)] at *); omega)]) hw
            · refine EV.bipush (pc := 44) (v := -102) dX4_plate_44 (by decide) ?_
              refine EV.iret (pc := 46) dX4_plate_46 trivial ?_
              exact PC.i (by unfold g_plate; rw [if_neg (by (try simp only [Int32.lt_iff_toInt_lt, Int32.le_iff_toInt_le, ← Int32.toInt_inj, Int64.lt_iff_toInt_lt, Int64.le_iff_toInt_le, ← Int64.toInt_inj, i_l0, i_l1, i_l2, i_l5, i_l19, i_m1, j_l0, j_l1, j_l5, Int32.toInt_toInt64] at *); (try simp only [show (20 : Int32).toInt = 20 from (by decide +kernel), show (12 : Int32).toInt = 12 from (by decide +kernel), show (4 : Int32).toInt = 4 from (by decide +kernel), show (7 : Int32).toInt = 7 from (by decide +kernel), show (3 : Int32).toInt = 3 from (by decide +kernel), show (304 : Int32).toInt = 304 from (by decide +kernel), show (1000000 : Int32).toInt = 1000000 from (by decide +kernel), show (-1000000 : Int32).toInt = -1000000 from (by decide +kernel), show (100000 : Int32).toInt = 100000 from (by decide +kernel), show (2000 : Int32).toInt = 2000 from (by decide +kernel)] at *); omega)]) hw
  · have e0 : f_plate s p lane w t = (-101, s) := by unfold f_plate; rw [if_neg hp]
    rw [e0]
    refine MC.of (by decide +kernel) (Nat.le_of_ble_eq_true rfl) (by dsimp only [linit, Nat.reduceSub, List.reduceReplicate] <;> rfl) ?_
    refine EV.aload_n (pc := 0) dX4_plate_0 rfl ?_
    refine EV.iload_n (pc := 1) dX4_plate_1 rfl ?_
    refine EV.callVR1 (pc := 2) (M' := M_X4_plateOf) dX4_plate_2 lkX4_55 okV_X4_plateOf (m_plateOfN p hw hp) (by decide) rfl rfl (Nat.le_of_ble_eq_true rfl) (by decide) hw.h0 ?_
    refine EV.astoreN (pc := 5) dX4_plate_5 (by decide) (by dsimp only [lst1, lk] <;> rfl) ?_
    refine EV.aloadN (pc := 7) dX4_plate_7 rfl ?_
    refine EV.ifnonnullN (pc := 9) dX4_plate_9 ?_
    refine EV.bipush (pc := 12) (v := -101) dX4_plate_12 (by decide) ?_
    exact EV.iret (pc := 14) dX4_plate_14 trivial ⟨rfl, z, hw⟩

set_option maxHeartbeats 4000000 in
set_option maxRecDepth 100000 in
theorem p_bad {G : eG} {ad : Nat → Nat} {h : Nat → va_E} {s : St} {z : Zc} {hm : Nat → va_E} (hw : CW G ad s z hm h) (hI : Inv s) (x y : Int32) (b : Bool)  : MC G M_X4_bad cX4_bad ad 54 [.ref (ad 0), .int x, .int y, .int (b2i b)] h (PC G ad hm (.int (f_bad s x y b).1) (f_bad s x y b).2) := by
  refine MC.of (by decide +kernel) (Nat.le_of_ble_eq_true rfl) (by dsimp only [linit, Nat.reduceSub, List.reduceReplicate] <;> rfl) ?_
  refine EV.iload_n (pc := 0) dX4_bad_0 rfl ?_
  refine EV.iload_n (pc := 1) dX4_bad_1 rfl ?_
  refine EV.callSR1 (pc := 2) (M' := M_X4_isCell) dX4_bad_2 lkX4_100 okS_X4_isCell (m_isCell _ _) (by decide) rfl rfl (Nat.le_of_ble_eq_true rfl) ?_
  refine EV.if_ne (pc := 5) (tgt := 11) dX4_bad_5 (by decide) (fun c5 => ?_) (fun c5 => ?_)
  · replace c5 := b2i_T c5
    have hx := p_ix (x := x) (y := y) (w := 20) (w2 := 20) (by omega) (by omega) (by omega)
    refine EV.aload_n (pc := 11) dX4_bad_11 rfl ?_
    refine EV.getf (pc := 12) dX4_bad_12 fgX4_15 (by decide) hw.h0 rfl ?_
    refine EV.iload_n (pc := 15) dX4_bad_15 rfl ?_
    refine EV.bipush (pc := 16) (v := 20) dX4_bad_16 (by decide) ?_
    refine EV.imul (pc := 18) dX4_bad_18 ?_
    refine EV.iload_n (pc := 19) dX4_bad_19 rfl ?_
    refine EV.iadd (pc := 20) dX4_bad_20 ?_
    refine EV.zald (pc := 21) dX4_bad_21 (by decide) hw.h2 hx.1 ?_
    refine EV.topi (y := b2i (s_bad s (y.toInt.toNat * 20 + x.toInt.toNat))) (by rw [hx.2]) ?_
    refine EV.if_eq (pc := 22) (tgt := 29) dX4_bad_22 (by decide) (fun c22 => ?_) (fun c22 => ?_)
    · refine EV.iconst (pc := 29) (v := 0) dX4_bad_29 (by decide) ?_
      refine EV.istore (pc := 30) dX4_bad_30 (by decide) (by dsimp only [lst1, lk] <;> rfl) ?_
      refine EV.aload_n (pc := 32) dX4_bad_32 rfl ?_
      refine EV.getf (pc := 33) dX4_bad_33 fgX4_15 (by decide) hw.h0 rfl ?_
      refine EV.iload_n (pc := 36) dX4_bad_36 rfl ?_
      refine EV.bipush (pc := 37) (v := 20) dX4_bad_37 (by decide) ?_
      refine EV.imul (pc := 39) dX4_bad_39 ?_
      refine EV.iload_n (pc := 40) dX4_bad_40 rfl ?_
      refine EV.iadd (pc := 41) dX4_bad_41 ?_
      refine EV.iload_n (pc := 42) dX4_bad_42 rfl ?_
      refine EV.zast (pc := 43) dX4_bad_43 (by decide) hw.h2 hx.1 ?_
      refine EV.abs (Pr := CW G ad (S_bad s (va_up (s_bad s) (y.toInt.toNat * 20 + x.toInt.toNat) b)) z hm) (by have q := hw.set_bad (y.toInt.toNat * 20 + x.toInt.toNat) b; rw [b2i_vp, hx.2]; exact q) (fun h hw => ?_)
      refine EV.iload (pc := 44) dX4_bad_44 rfl ?_
      refine EV.iret (pc := 46) dX4_bad_46 trivial ?_
      exact PC.i (by unfold f_bad; rw [if_pos c5]; first | (rw [b2i_eq c22]; rfl) | (rw [b2i_ne c22]; rfl)) hw
    · refine EV.iconst (pc := 25) (v := 1) dX4_bad_25 (by decide) ?_
      refine EV.goto (pc := 26) (tgt := 30) dX4_bad_26 (by decide) ?_
      refine EV.istore (pc := 30) dX4_bad_30 (by decide) (by dsimp only [lst1, lk] <;> rfl) ?_
      refine EV.aload_n (pc := 32) dX4_bad_32 rfl ?_
      refine EV.getf (pc := 33) dX4_bad_33 fgX4_15 (by decide) hw.h0 rfl ?_
      refine EV.iload_n (pc := 36) dX4_bad_36 rfl ?_
      refine EV.bipush (pc := 37) (v := 20) dX4_bad_37 (by decide) ?_
      refine EV.imul (pc := 39) dX4_bad_39 ?_
      refine EV.iload_n (pc := 40) dX4_bad_40 rfl ?_
      refine EV.iadd (pc := 41) dX4_bad_41 ?_
      refine EV.iload_n (pc := 42) dX4_bad_42 rfl ?_
      refine EV.zast (pc := 43) dX4_bad_43 (by decide) hw.h2 hx.1 ?_
      refine EV.abs (Pr := CW G ad (S_bad s (va_up (s_bad s) (y.toInt.toNat * 20 + x.toInt.toNat) b)) z hm) (by have q := hw.set_bad (y.toInt.toNat * 20 + x.toInt.toNat) b; rw [b2i_vp, hx.2]; exact q) (fun h hw => ?_)
      refine EV.iload (pc := 44) dX4_bad_44 rfl ?_
      refine EV.iret (pc := 46) dX4_bad_46 trivial ?_
      exact PC.i (by unfold f_bad; rw [if_pos c5]; first | (rw [b2i_eq c22]; rfl) | (rw [b2i_ne c22]; rfl)) hw
  · replace c5 := b2i_F c5
    refine EV.bipush (pc := 8) (v := -102) dX4_bad_8 (by decide) ?_
    refine EV.iret (pc := 10) dX4_bad_10 trivial ?_
    exact PC.i (by unfold f_bad; rw [if_neg c5]) hw

set_option maxHeartbeats 4000000 in
set_option maxRecDepth 100000 in
theorem p_line {G : eG} {ad : Nat → Nat} {h : Nat → va_E} {s : St} {z : Zc} {hm : Nat → va_E} (hw : CW G ad s z hm h) (hI : Inv s) (u : Int32)  : MC G M_X4_line cX4_line ad 54 [.ref (ad 0), .int u] h (PC G ad hm (.int (f_line s u).1) (f_line s u).2) := by
  obtain ⟨hI1, hI2, hI3, hI4, hI5, hI6, hI7, hI8, hI9, hI10, hI11, hI12, hI13⟩ := hI
  have en := nI_t (show s_lc s < 2147483648 by omega)
  refine MC.of (by decide +kernel) (Nat.le_of_ble_eq_true rfl) (by dsimp only [linit, Nat.reduceSub, List.reduceReplicate] <;> rfl) ?_
  refine EV.iload_n (pc := 0) dX4_line_0 rfl ?_
  refine EV.iconst (pc := 1) (v := 1) dX4_line_1 (by decide) ?_
  refine EV.ldc (pc := 2) dX4_line_2 kcX4_171 ?_
  refine EV.callSR1 (pc := 4) (M' := M_X4_within) dX4_line_4 lkX4_106 okS_X4_within (m_within _ _ _) (by decide) rfl rfl (Nat.le_of_ble_eq_true rfl) ?_
  refine EV.if_eq (pc := 7) (tgt := 32) dX4_line_7 (by decide) (fun c7 => ?_) (fun c7 => ?_)
  · replace c7 := b2i_F c7
    refine EV.bipush (pc := 32) (v := -102) dX4_line_32 (by decide) ?_
    refine EV.iret (pc := 34) dX4_line_34 trivial ?_
    exact PC.i (by unfold f_line; rw [if_neg (by (try simp only [Int32.lt_iff_toInt_lt, Int32.le_iff_toInt_le, ← Int32.toInt_inj, Int64.lt_iff_toInt_lt, Int64.le_iff_toInt_le, ← Int64.toInt_inj, i_l0, i_l1, i_l2, i_l5, i_l19, i_m1, j_l0, j_l1, j_l5, Int32.toInt_toInt64] at *); (try simp only [show (20 : Int32).toInt = 20 from (by decide +kernel), show (12 : Int32).toInt = 12 from (by decide +kernel), show (4 : Int32).toInt = 4 from (by decide +kernel), show (7 : Int32).toInt = 7 from (by decide +kernel), show (3 : Int32).toInt = 3 from (by decide +kernel), show (304 : Int32).toInt = 304 from (by decide +kernel), show (1000000 : Int32).toInt = 1000000 from (by decide +kernel), show (-1000000 : Int32).toInt = -1000000 from (by decide +kernel), show (100000 : Int32).toInt = 100000 from (by decide +kernel), show (2000 : Int32).toInt = 2000 from (by decide +kernel)] at *); omega)]) hw
  · replace c7 := b2i_T c7
    refine EV.aload_n (pc := 10) dX4_line_10 rfl ?_
    refine EV.getf (pc := 11) dX4_line_11 fgX4_172 (by decide) hw.h0 rfl ?_
    refine EV.if_le (pc := 14) (tgt := 35) dX4_line_14 (by decide) (fun c14 => ?_) (fun c14 => ?_)
    · refine EV.aload_n (pc := 35) dX4_line_35 rfl ?_
      refine EV.getf (pc := 36) dX4_line_36 fgX4_172 (by decide) hw.h0 rfl ?_
      refine EV.bipush (pc := 39) (v := 12) dX4_line_39 (by decide) ?_
      refine EV.icmp_lt (pc := 41) (tgt := 47) dX4_line_41 (by decide) (fun c41 => ?_) (fun c41 => ?_)
      · refine EV.aload_n (pc := 47) dX4_line_47 rfl ?_
        refine EV.getf (pc := 48) dX4_line_48 fgX4_25 (by decide) hw.h0 rfl ?_
        refine EV.aload_n (pc := 51) dX4_line_51 rfl ?_
        refine EV.getf (pc := 52) dX4_line_52 fgX4_172 (by decide) hw.h0 rfl ?_
        refine EV.iload_n (pc := 55) dX4_line_55 rfl ?_
        refine EV.iast (pc := 56) dX4_line_56 (by decide) hw.h4 (vp_in_nI (show s_lc s < 12 by (try simp only [Int32.lt_iff_toInt_lt, Int32.le_iff_toInt_le, ← Int32.toInt_inj, Int64.lt_iff_toInt_lt, Int64.le_iff_toInt_le, ← Int64.toInt_inj, i_l0, i_l1, i_l2, i_l5, i_l19, i_m1, j_l0, j_l1, j_l5, Int32.toInt_toInt64] at *); (try simp only [show (20 : Int32).toInt = 20 from (by decide +kernel), show (12 : Int32).toInt = 12 from (by decide +kernel), show (4 : Int32).toInt = 4 from (by decide +kernel), show (7 : Int32).toInt = 7 from (by decide +kernel), show (3 : Int32).toInt = 3 from (by decide +kernel), show (304 : Int32).toInt = 304 from (by decide +kernel), show (1000000 : Int32).toInt = 1000000 from (by decide +kernel), show (-1000000 : Int32).toInt = -1000000 from (by decide +kernel), show (100000 : Int32).toInt = 100000 from (by decide +kernel), show (2000 : Int32).toInt = 2000 from (by decide +kernel)] at *); omega) (by omega)) ?_
        refine EV.abs (Pr := CW G ad (S_ln s (upd (s_ln s) (s_lc s) u)) z hm) (by have q := hw.set_ln (s_lc s) u; rw [nI_clamp (by omega)]; exact q) (fun h hw => ?_)
        refine EV.aload_n (pc := 57) dX4_line_57 rfl ?_
        refine EV.dup (pc := 58) dX4_line_58 rfl ?_
        refine EV.getf (pc := 59) dX4_line_59 fgX4_172 (by decide) hw.h0 rfl ?_
        refine EV.iconst (pc := 62) (v := 1) dX4_line_62 (by decide) ?_
        refine EV.iadd (pc := 63) dX4_line_63 ?_
        rw [nI_p1]
        refine EV.putf (pc := 64) dX4_line_64 fpX4_172 (by decide) hw.h0 rfl rfl (Nat.le_of_ble_eq_true rfl) ?_
        refine EV.abs (Pr := CW G ad (S_lc (S_ln s (upd (s_ln s) (s_lc s) u)) (s_lc s + 1)) z hm) (hw.set_lc (s_lc s + 1)) (fun h hw => ?_)
        refine EV.aload_n (pc := 67) dX4_line_67 rfl ?_
        refine EV.getf (pc := 68) dX4_line_68 fgX4_172 (by decide) hw.h0 rfl ?_
        refine EV.iret (pc := 71) dX4_line_71 trivial ?_
        exact PC.i (by unfold f_line; rw [if_pos (by (try simp only [Int32.lt_iff_toInt_lt, Int32.le_iff_toInt_le, ← Int32.toInt_inj, Int64.lt_iff_toInt_lt, Int64.le_iff_toInt_le, ← Int64.toInt_inj, i_l0, i_l1, i_l2, i_l5, i_l19, i_m1, j_l0, j_l1, j_l5, Int32.toInt_toInt64] at *); (try simp only [show (20 : Int32).toInt = 20 from (by decide +kernel), show (12 : Int32).toInt = 12 from (by decide +kernel), show (4 : Int32).toInt = 4 from (by decide +kernel), show (7 : Int32).toInt = 7 from (by decide +kernel), show (3 : Int32).toInt = 3 from (by decide +kernel), show (304 : Int32).toInt = 304 from (by decide +kernel), show (1000000 : Int32).toInt = 1000000 from (by decide +kernel), show (-1000000 : Int32).toInt = -1000000 from (by decide +kernel), show (100000 : Int32).toInt = 100000 from (by decide +kernel), show (2000 : Int32).toInt = 2000 from (by decide +kernel)] at *); omega), if_pos (by (try simp only [Int32.lt_iff_toInt_lt, Int32.le_iff_toInt_le, ← Int32.toInt_inj, Int64.lt_iff_toInt_lt, Int64.le_iff_toInt_le, ← Int64.toInt_inj, i_l0, i_l1, i_l2, i_l5, i_l19, i_m1, j_l0, j_l1, j_l5, Int32.toInt_toInt64] at *); (try simp only [show (20 : Int32).toInt = 20 from (by decide +kernel), show (12 : Int32).toInt = 12 from (by decide +kernel), show (4 : Int32).toInt = 4 from (by decide +kernel), show (7 : Int32).toInt = 7 from (by decide +kernel), show (3 : Int32).toInt = 3 from (by decide +kernel), show (304 : Int32).toInt = 304 from (by decide +kernel), show (1000000 : Int32).toInt = 1000000 from (by decide +kernel), show (-1000000 : Int32).toInt = -1000000 from (by decide +kernel), show (100000 : Int32).toInt = 100000 from (by decide +kernel), show (2000 : Int32).toInt = 2000 from (by decide +kernel)] at *); omega)]) hw
      · refine EV.bipush (pc := 44) (v := -104) dX4_line_44 (by decide) ?_
        refine EV.iret (pc := 46) dX4_line_46 trivial ?_
        exact PC.i (by unfold f_line; rw [if_pos (by (try simp only [Int32.lt_iff_toInt_lt, Int32.le_iff_toInt_le, ← Int32.toInt_inj, Int64.lt_iff_toInt_lt, Int64.le_iff_toInt_le, ← Int64.toInt_inj, i_l0, i_l1, i_l2, i_l5, i_l19, i_m1, j_l0, j_l1, j_l5, Int32.toInt_toInt64] at *); (try simp only [show (20 : Int32).toInt = 20 from (by decide +kernel), show (12 : Int32).toInt = 12 from (by decide +kernel), show (4 : Int32).toInt = 4 from (by decide +kernel), show (7 : Int32).toInt = 7 from (by decide +kernel), show (3 : Int32).toInt = 3 from (by decide +kernel), show (304 : Int32).toInt = 304 from (by decide +kernel), show (1000000 : Int32).toInt = 1000000 from (by decide +kernel), show (-1000000 : Int32).toInt = -1000000 from (by decide +kernel), show (100000 : Int32).toInt = 100000 from (by decide +kernel), show (2000 : Int32).toInt = 2000 from (by decide +kernel)] at *); omega), if_neg (by (try simp only [Int32.lt_iff_toInt_lt, Int32.le_iff_toInt_le, ← Int32.toInt_inj, Int64.lt_iff_toInt_lt, Int64.le_iff_toInt_le, ← Int64.toInt_inj, i_l0, i_l1, i_l2, i_l5, i_l19, i_m1, j_l0, j_l1, j_l5, Int32.toInt_toInt64] at *); (try simp only [show (20 : Int32).toInt = 20 from (by decide +kernel), show (12 : Int32).toInt = 12 from (by decide +kernel), show (4 : Int32).toInt = 4 from (by decide +kernel), show (7 : Int32).toInt = 7 from (by decide +kernel), show (3 : Int32).toInt = 3 from (by decide +kernel), show (304 : Int32).toInt = 304 from (by decide +kernel), show (1000000 : Int32).toInt = 1000000 from (by decide +kernel), show (-1000000 : Int32).toInt = -1000000 from (by decide +kernel), show (100000 : Int32).toInt = 100000 from (by decide +kernel), show (2000 : Int32).toInt = 2000 from (by decide +kernel)] at *); omega)]) hw
    · refine EV.iload_n (pc := 17) dX4_line_17 rfl ?_
      refine EV.aload_n (pc := 18) dX4_line_18 rfl ?_
      refine EV.getf (pc := 19) dX4_line_19 fgX4_25 (by decide) hw.h0 rfl ?_
      refine EV.aload_n (pc := 22) dX4_line_22 rfl ?_
      refine EV.getf (pc := 23) dX4_line_23 fgX4_172 (by decide) hw.h0 rfl ?_
      refine EV.iconst (pc := 26) (v := 1) dX4_line_26 (by decide) ?_
      refine EV.isub (pc := 27) dX4_line_27 ?_
      rw [nI_m1 (by (try simp only [Int32.lt_iff_toInt_lt, Int32.le_iff_toInt_le, ← Int32.toInt_inj, Int64.lt_iff_toInt_lt, Int64.le_iff_toInt_le, ← Int64.toInt_inj, i_l0, i_l1, i_l2, i_l5, i_l19, i_m1, j_l0, j_l1, j_l5, Int32.toInt_toInt64] at *); (try simp only [show (20 : Int32).toInt = 20 from (by decide +kernel), show (12 : Int32).toInt = 12 from (by decide +kernel), show (4 : Int32).toInt = 4 from (by decide +kernel), show (7 : Int32).toInt = 7 from (by decide +kernel), show (3 : Int32).toInt = 3 from (by decide +kernel), show (304 : Int32).toInt = 304 from (by decide +kernel), show (1000000 : Int32).toInt = 1000000 from (by decide +kernel), show (-1000000 : Int32).toInt = -1000000 from (by decide +kernel), show (100000 : Int32).toInt = 100000 from (by decide +kernel), show (2000 : Int32).toInt = 2000 from (by decide +kernel)] at *); omega)]
      refine EV.iald (pc := 28) dX4_line_28 (by decide) hw.h4 (vp_in_nI (show s_lc s - 1 < 12 by omega) (by omega)) ?_
      refine EV.topi (y := s_ln s (s_lc s - 1)) (by rw [nI_clamp (by omega)]) ?_
      refine EV.icmp_gt (pc := 29) (tgt := 35) dX4_line_29 (by decide) (fun c29 => ?_) (fun c29 => ?_)
      · refine EV.aload_n (pc := 35) dX4_line_35 rfl ?_
        refine EV.getf (pc := 36) dX4_line_36 fgX4_172 (by decide) hw.h0 rfl ?_
        refine EV.bipush (pc := 39) (v := 12) dX4_line_39 (by decide) ?_
        refine EV.icmp_lt (pc := 41) (tgt := 47) dX4_line_41 (by decide) (fun c41 => ?_) (fun c41 => ?_)
        · refine EV.aload_n (pc := 47) dX4_line_47 rfl ?_
          refine EV.getf (pc := 48) dX4_line_48 fgX4_25 (by decide) hw.h0 rfl ?_
          refine EV.aload_n (pc := 51) dX4_line_51 rfl ?_
          refine EV.getf (pc := 52) dX4_line_52 fgX4_172 (by decide) hw.h0 rfl ?_
          refine EV.iload_n (pc := 55) dX4_line_55 rfl ?_
          refine EV.iast (pc := 56) dX4_line_56 (by decide) hw.h4 (vp_in_nI (show s_lc s < 12 by (try simp only [Int32.lt_iff_toInt_lt, Int32.le_iff_toInt_le, ← Int32.toInt_inj, Int64.lt_iff_toInt_lt, Int64.le_iff_toInt_le, ← Int64.toInt_inj, i_l0, i_l1, i_l2, i_l5, i_l19, i_m1, j_l0, j_l1, j_l5, Int32.toInt_toInt64] at *); (try simp only [show (20 : Int32).toInt = 20 from (by decide +kernel), show (12 : Int32).toInt = 12 from (by decide +kernel), show (4 : Int32).toInt = 4 from (by decide +kernel), show (7 : Int32).toInt = 7 from (by decide +kernel), show (3 : Int32).toInt = 3 from (by decide +kernel), show (304 : Int32).toInt = 304 from (by decide +kernel), show (1000000 : Int32).toInt = 1000000 from (by decide +kernel), show (-1000000 : Int32).toInt = -1000000 from (by decide +kernel), show (100000 : Int32).toInt = 100000 from (by decide +kernel), show (2000 : Int32).toInt = 2000 from (by decide +kernel)] at *); omega) (by omega)) ?_
          refine EV.abs (Pr := CW G ad (S_ln s (upd (s_ln s) (s_lc s) u)) z hm) (by have q := hw.set_ln (s_lc s) u; rw [nI_clamp (by omega)]; exact q) (fun h hw => ?_)
          refine EV.aload_n (pc := 57) dX4_line_57 rfl ?_
          refine EV.dup (pc := 58) dX4_line_58 rfl ?_
          refine EV.getf (pc := 59) dX4_line_59 fgX4_172 (by decide) hw.h0 rfl ?_
          refine EV.iconst (pc := 62) (v := 1) dX4_line_62 (by decide) ?_
          refine EV.iadd (pc := 63) dX4_line_63 ?_
          rw [nI_p1]
          refine EV.putf (pc := 64) dX4_line_64 fpX4_172 (by decide) hw.h0 rfl rfl (Nat.le_of_ble_eq_true rfl) ?_
          refine EV.abs (Pr := CW G ad (S_lc (S_ln s (upd (s_ln s) (s_lc s) u)) (s_lc s + 1)) z hm) (hw.set_lc (s_lc s + 1)) (fun h hw => ?_)
          refine EV.aload_n (pc := 67) dX4_line_67 rfl ?_
          refine EV.getf (pc := 68) dX4_line_68 fgX4_172 (by decide) hw.h0 rfl ?_
          refine EV.iret (pc := 71) dX4_line_71 trivial ?_
          exact PC.i (by unfold f_line; rw [if_pos (by (try simp only [Int32.lt_iff_toInt_lt, Int32.le_iff_toInt_le, ← Int32.toInt_inj, Int64.lt_iff_toInt_lt, Int64.le_iff_toInt_le, ← Int64.toInt_inj, i_l0, i_l1, i_l2, i_l5, i_l19, i_m1, j_l0, j_l1, j_l5, Int32.toInt_toInt64] at *); (try simp only [show (20 : Int32).toInt = 20 from (by decide +kernel), show (12 : Int32).toInt = 12 from (by decide +kernel), show (4 : Int32).toInt = 4 from (by decide +kernel), show (7 : Int32).toInt = 7 from (by decide +kernel), show (3 : Int32).toInt = 3 from (by decide +kernel), show (304 : Int32).toInt = 304 from (by decide +kernel), show (1000000 : Int32).toInt = 1000000 from (by decide +kernel), show (-1000000 : Int32).toInt = -1000000 from (by decide +kernel), show (100000 : Int32).toInt = 100000 from (by decide +kernel), show (2000 : Int32).toInt = 2000 from (by decide +kernel)] at *); omega), if_pos (by (try simp only [Int32.lt_iff_toInt_lt, Int32.le_iff_toInt_le, ← Int32.toInt_inj, Int64.lt_iff_toInt_lt, Int64.le_iff_toInt_le, ← Int64.toInt_inj, i_l0, i_l1, i_l2, i_l5, i_l19, i_m1, j_l0, j_l1, j_l5, Int32.toInt_toInt64] at *); (try simp only [show (20 : Int32).toInt = 20 from (by decide +kernel), show (12 : Int32).toInt = 12 from (by decide +kernel), show (4 : Int32).toInt = 4 from (by decide +kernel), show (7 : Int32).toInt = 7 from (by decide +kernel), show (3 : Int32).toInt = 3 from (by decide +kernel), show (304 : Int32).toInt = 304 from (by decide +kernel), show (1000000 : Int32).toInt = 1000000 from (by decide +kernel), show (-1000000 : Int32).toInt = -1000000 from (by decide +kernel), show (100000 : Int32).toInt = 100000 from (by decide +kernel), show (2000 : Int32).toInt = 2000 from (by decide +kernel)] at *); omega)]) hw
        · refine EV.bipush (pc := 44) (v := -104) dX4_line_44 (by decide) ?_
          refine EV.iret (pc := 46) dX4_line_46 trivial ?_
          exact PC.i (by unfold f_line; rw [if_pos (by (try simp only [Int32.lt_iff_toInt_lt, Int32.le_iff_toInt_le, ← Int32.toInt_inj, Int64.lt_iff_toInt_lt, Int64.le_iff_toInt_le, ← Int64.toInt_inj, i_l0, i_l1, i_l2, i_l5, i_l19, i_m1, j_l0, j_l1, j_l5, Int32.toInt_toInt64] at *); (try simp only [show (20 : Int32).toInt = 20 from (by decide +kernel), show (12 : Int32).toInt = 12 from (by decide +kernel), show (4 : Int32).toInt = 4 from (by decide +kernel), show (7 : Int32).toInt = 7 from (by decide +kernel), show (3 : Int32).toInt = 3 from (by decide +kernel), show (304 : Int32).toInt = 304 from (by decide +kernel), show (1000000 : Int32).toInt = 1000000 from (by decide +kernel), show (-1000000 : Int32).toInt = -1000000 from (by decide +kernel), show (100000 : Int32).toInt = 100000 from (by decide +kernel), show (2000 : Int32).toInt = 2000 from (by decide +kernel)] at *); omega), if_neg (by (try simp only [Int32.lt_iff_toInt_lt, Int32.le_iff_toInt_le, ← Int32.toInt_inj, Int64.lt_iff_toInt_lt, Int64.le_iff_toInt_le, ← Int64.toInt_inj, i_l0, i_l1, i_l2, i_l5, i_l19, i_m1, j_l0, j_l1, j_l5, Int32.toInt_toInt64] at *); (try simp only [show (20 : Int32).toInt = 20 from (by decide +kernel), show (12 : Int32).toInt = 12 from (by decide +kernel), show (4 : Int32).toInt = 4 from (by decide +kernel), show (7 : Int32).toInt = 7 from (by decide +kernel), show (3 : Int32).toInt = 3 from (by decide +kernel), show (304 : Int32).toInt = 304 from (by decide +kernel), show (1000000 : Int32).toInt = 1000000 from (by decide +kernel), show (-1000000 : Int32).toInt = -1000000 from (by decide +kernel), show (100000 : Int32).toInt = 100000 from (by decide +kernel), show (2000 : Int32).toInt = 2000 from (by decide +kernel)] at *); omega)]) hw
      · refine EV.bipush (pc := 32) (v := -102) dX4_line_32 (by decide) ?_
        refine EV.iret (pc := 34) dX4_line_34 trivial ?_
        exact PC.i (by unfold f_line; rw [if_neg (by (try simp only [Int32.lt_iff_toInt_lt, Int32.le_iff_toInt_le, ← Int32.toInt_inj, Int64.lt_iff_toInt_lt, Int64.le_iff_toInt_le, ← Int64.toInt_inj, i_l0, i_l1, i_l2, i_l5, i_l19, i_m1, j_l0, j_l1, j_l5, Int32.toInt_toInt64] at *); (try simp only [show (20 : Int32).toInt = 20 from (by decide +kernel), show (12 : Int32).toInt = 12 from (by decide +kernel), show (4 : Int32).toInt = 4 from (by decide +kernel), show (7 : Int32).toInt = 7 from (by decide +kernel), show (3 : Int32).toInt = 3 from (by decide +kernel), show (304 : Int32).toInt = 304 from (by decide +kernel), show (1000000 : Int32).toInt = 1000000 from (by decide +kernel), show (-1000000 : Int32).toInt = -1000000 from (by decide +kernel), show (100000 : Int32).toInt = 100000 from (by decide +kernel), show (2000 : Int32).toInt = 2000 from (by decide +kernel)] at *); omega)]) hw

theorem va_up_id {α : Type} (f : Nat → α) (k : Nat) : va_up f k (f k) = f := by funext j; simp only [va_up]; split <;> simp_all
theorem CW.set_abr {G : eG} {ad : Nat → Nat} {s : St} {z : Zc} {hm h : Nat → va_E} (hw : CW G ad s z hm h) (p : Nat) (a b r : Nat) (hp : p < 4) : CW G ad (S_cr (S_cb (S_ca s (va_up (s_ca s) p a)) (va_up (s_cb s) p b)) (va_up (s_cr s) p r)) z hm (va_up h (22 + 3 * p) (.inr (0, [.int (nI a), .int (nI b), .int (nI r), .int (nI (s_co s p)), .ref (ad (23 + 3 * p)), .ref (ad (24 + 3 * p))]))) := by
  refine ⟨?_, ?_, ?_, ?_, ?_, ?_, ?_, ?_, ?_, ?_, ?_, ?_, ?_, ?_, ?_, ?_⟩
  · exact (va_up_n (by omega)).trans hw.h0
  · exact (va_up_n (by omega)).trans hw.h1
  · exact (va_up_n (by omega)).trans hw.h2
  · exact (va_up_n (by omega)).trans hw.h3
  · exact (va_up_n (by omega)).trans hw.h4
  · exact (va_up_n (by omega)).trans hw.h5
  · exact (va_up_n (by omega)).trans hw.h6
  · exact (va_up_n (by omega)).trans hw.h7
  · exact (va_up_n (by omega)).trans hw.h8
  · exact (va_up_n (by omega)).trans hw.h9
  · exact fun j hj => (va_up_n (by omega)).trans (hw.pl j hj)
  · exact fun j hj => (va_up_n (by omega)).trans (hw.ct j hj)
  · exact (by
    intro q hq
    by_cases e : q = p
    · subst e; rw [va_up_s]; simp [oK, va_up, s_lost, s_lane, s_w, s_h, s_ct, s_bad, s_cn, s_ca, s_cb, s_cr, s_co, s_nm, s_li, s_lA, s_lB, s_lF, s_lc, s_ln, s_gc, s_gr, s_sn, s_cs, s_cc, s_md, S_lost, S_lane, S_w, S_h, S_ct, S_bad, S_cn, S_ca, S_cb, S_cr, S_co, S_nm, S_li, S_lA, S_lB, S_lF, S_lc, S_ln, S_gc, S_gr, S_sn, S_cs, S_cc, S_md, c_pp, c_sr, c_sl, c_sf, c_sq, c_sp, c_bi, c_ba, c_bb, c_bf, C_pp, C_sr, C_sl, C_sf, C_sq, C_sp, C_bi, C_ba, C_bb, C_bf, m_pm, m_pp, m_mo, m_bA, m_bB, m_hh, m_jA, m_jB, m_jF, M_pm, M_pp, M_mo, M_bA, M_bB, M_hh, M_jA, M_jB, M_jF]
    · rw [va_up_n (by omega), hw.kb q hq]; simp [va_up, e, oK, s_lost, s_lane, s_w, s_h, s_ct, s_bad, s_cn, s_ca, s_cb, s_cr, s_co, s_nm, s_li, s_lA, s_lB, s_lF, s_lc, s_ln, s_gc, s_gr, s_sn, s_cs, s_cc, s_md, S_lost, S_lane, S_w, S_h, S_ct, S_bad, S_cn, S_ca, S_cb, S_cr, S_co, S_nm, S_li, S_lA, S_lB, S_lF, S_lc, S_ln, S_gc, S_gr, S_sn, S_cs, S_cc, S_md, c_pp, c_sr, c_sl, c_sf, c_sq, c_sp, c_bi, c_ba, c_bb, c_bf, C_pp, C_sr, C_sl, C_sf, C_sq, C_sp, C_bi, C_ba, C_bb, C_bf, m_pm, m_pp, m_mo, m_bA, m_bB, m_hh, m_jA, m_jB, m_jF, M_pm, M_pp, M_mo, M_bA, M_bB, M_hh, M_jA, M_jB, M_jF])
  · exact fun j hj => (va_up_n (by omega)).trans (hw.nm j hj)
  · exact fun j hj => (va_up_n (by omega)).trans (hw.lw j hj)
  · exact fun j hj => (va_up_n (by omega)).trans (hw.fr j hj)
theorem CW.set_a {G : eG} {ad : Nat → Nat} {s : St} {z : Zc} {hm h : Nat → va_E} (hw : CW G ad s z hm h) (p : Nat) (a : Nat) (hp : p < 4) : CW G ad (S_ca s (va_up (s_ca s) p a)) z hm (va_up h (22 + 3 * p) (.inr (0, [.int (nI a), .int (nI (s_cb s p)), .int (nI (s_cr s p)), .int (nI (s_co s p)), .ref (ad (23 + 3 * p)), .ref (ad (24 + 3 * p))]))) := by
  refine ⟨?_, ?_, ?_, ?_, ?_, ?_, ?_, ?_, ?_, ?_, ?_, ?_, ?_, ?_, ?_, ?_⟩
  · exact (va_up_n (by omega)).trans hw.h0
  · exact (va_up_n (by omega)).trans hw.h1
  · exact (va_up_n (by omega)).trans hw.h2
  · exact (va_up_n (by omega)).trans hw.h3
  · exact (va_up_n (by omega)).trans hw.h4
  · exact (va_up_n (by omega)).trans hw.h5
  · exact (va_up_n (by omega)).trans hw.h6
  · exact (va_up_n (by omega)).trans hw.h7
  · exact (va_up_n (by omega)).trans hw.h8
  · exact (va_up_n (by omega)).trans hw.h9
  · exact fun j hj => (va_up_n (by omega)).trans (hw.pl j hj)
  · exact fun j hj => (va_up_n (by omega)).trans (hw.ct j hj)
  · exact (by
    intro q hq
    by_cases e : q = p
    · subst e; rw [va_up_s]; simp [oK, va_up, s_lost, s_lane, s_w, s_h, s_ct, s_bad, s_cn, s_ca, s_cb, s_cr, s_co, s_nm, s_li, s_lA, s_lB, s_lF, s_lc, s_ln, s_gc, s_gr, s_sn, s_cs, s_cc, s_md, S_lost, S_lane, S_w, S_h, S_ct, S_bad, S_cn, S_ca, S_cb, S_cr, S_co, S_nm, S_li, S_lA, S_lB, S_lF, S_lc, S_ln, S_gc, S_gr, S_sn, S_cs, S_cc, S_md, c_pp, c_sr, c_sl, c_sf, c_sq, c_sp, c_bi, c_ba, c_bb, c_bf, C_pp, C_sr, C_sl, C_sf, C_sq, C_sp, C_bi, C_ba, C_bb, C_bf, m_pm, m_pp, m_mo, m_bA, m_bB, m_hh, m_jA, m_jB, m_jF, M_pm, M_pp, M_mo, M_bA, M_bB, M_hh, M_jA, M_jB, M_jF]
    · rw [va_up_n (by omega), hw.kb q hq]; simp [va_up, e, oK, s_lost, s_lane, s_w, s_h, s_ct, s_bad, s_cn, s_ca, s_cb, s_cr, s_co, s_nm, s_li, s_lA, s_lB, s_lF, s_lc, s_ln, s_gc, s_gr, s_sn, s_cs, s_cc, s_md, S_lost, S_lane, S_w, S_h, S_ct, S_bad, S_cn, S_ca, S_cb, S_cr, S_co, S_nm, S_li, S_lA, S_lB, S_lF, S_lc, S_ln, S_gc, S_gr, S_sn, S_cs, S_cc, S_md, c_pp, c_sr, c_sl, c_sf, c_sq, c_sp, c_bi, c_ba, c_bb, c_bf, C_pp, C_sr, C_sl, C_sf, C_sq, C_sp, C_bi, C_ba, C_bb, C_bf, m_pm, m_pp, m_mo, m_bA, m_bB, m_hh, m_jA, m_jB, m_jF, M_pm, M_pp, M_mo, M_bA, M_bB, M_hh, M_jA, M_jB, M_jF])
  · exact fun j hj => (va_up_n (by omega)).trans (hw.nm j hj)
  · exact fun j hj => (va_up_n (by omega)).trans (hw.lw j hj)
  · exact fun j hj => (va_up_n (by omega)).trans (hw.fr j hj)
theorem CW.set_b {G : eG} {ad : Nat → Nat} {s : St} {z : Zc} {hm h : Nat → va_E} (hw : CW G ad s z hm h) (p : Nat) (a : Nat) (hp : p < 4) : CW G ad (S_cb s (va_up (s_cb s) p a)) z hm (va_up h (22 + 3 * p) (.inr (0, [.int (nI (s_ca s p)), .int (nI a), .int (nI (s_cr s p)), .int (nI (s_co s p)), .ref (ad (23 + 3 * p)), .ref (ad (24 + 3 * p))]))) := by
  refine ⟨?_, ?_, ?_, ?_, ?_, ?_, ?_, ?_, ?_, ?_, ?_, ?_, ?_, ?_, ?_, ?_⟩
  · exact (va_up_n (by omega)).trans hw.h0
  · exact (va_up_n (by omega)).trans hw.h1
  · exact (va_up_n (by omega)).trans hw.h2
  · exact (va_up_n (by omega)).trans hw.h3
  · exact (va_up_n (by omega)).trans hw.h4
  · exact (va_up_n (by omega)).trans hw.h5
  · exact (va_up_n (by omega)).trans hw.h6
  · exact (va_up_n (by omega)).trans hw.h7
  · exact (va_up_n (by omega)).trans hw.h8
  · exact (va_up_n (by omega)).trans hw.h9
  · exact fun j hj => (va_up_n (by omega)).trans (hw.pl j hj)
  · exact fun j hj => (va_up_n (by omega)).trans (hw.ct j hj)
  · exact (by
    intro q hq
    by_cases e : q = p
    · subst e; rw [va_up_s]; simp [oK, va_up, s_lost, s_lane, s_w, s_h, s_ct, s_bad, s_cn, s_ca, s_cb, s_cr, s_co, s_nm, s_li, s_lA, s_lB, s_lF, s_lc, s_ln, s_gc, s_gr, s_sn, s_cs, s_cc, s_md, S_lost, S_lane, S_w, S_h, S_ct, S_bad, S_cn, S_ca, S_cb, S_cr, S_co, S_nm, S_li, S_lA, S_lB, S_lF, S_lc, S_ln, S_gc, S_gr, S_sn, S_cs, S_cc, S_md, c_pp, c_sr, c_sl, c_sf, c_sq, c_sp, c_bi, c_ba, c_bb, c_bf, C_pp, C_sr, C_sl, C_sf, C_sq, C_sp, C_bi, C_ba, C_bb, C_bf, m_pm, m_pp, m_mo, m_bA, m_bB, m_hh, m_jA, m_jB, m_jF, M_pm, M_pp, M_mo, M_bA, M_bB, M_hh, M_jA, M_jB, M_jF]
    · rw [va_up_n (by omega), hw.kb q hq]; simp [va_up, e, oK, s_lost, s_lane, s_w, s_h, s_ct, s_bad, s_cn, s_ca, s_cb, s_cr, s_co, s_nm, s_li, s_lA, s_lB, s_lF, s_lc, s_ln, s_gc, s_gr, s_sn, s_cs, s_cc, s_md, S_lost, S_lane, S_w, S_h, S_ct, S_bad, S_cn, S_ca, S_cb, S_cr, S_co, S_nm, S_li, S_lA, S_lB, S_lF, S_lc, S_ln, S_gc, S_gr, S_sn, S_cs, S_cc, S_md, c_pp, c_sr, c_sl, c_sf, c_sq, c_sp, c_bi, c_ba, c_bb, c_bf, C_pp, C_sr, C_sl, C_sf, C_sq, C_sp, C_bi, C_ba, C_bb, C_bf, m_pm, m_pp, m_mo, m_bA, m_bB, m_hh, m_jA, m_jB, m_jF, M_pm, M_pp, M_mo, M_bA, M_bB, M_hh, M_jA, M_jB, M_jF])
  · exact fun j hj => (va_up_n (by omega)).trans (hw.nm j hj)
  · exact fun j hj => (va_up_n (by omega)).trans (hw.lw j hj)
  · exact fun j hj => (va_up_n (by omega)).trans (hw.fr j hj)
theorem CW.set_co {G : eG} {ad : Nat → Nat} {s : St} {z : Zc} {hm h : Nat → va_E} (hw : CW G ad s z hm h) (p : Nat) (a : Nat) (hp : p < 4) : CW G ad (S_co s (va_up (s_co s) p a)) z hm (va_up h (22 + 3 * p) (.inr (0, [.int (nI (s_ca s p)), .int (nI (s_cb s p)), .int (nI (s_cr s p)), .int (nI a), .ref (ad (23 + 3 * p)), .ref (ad (24 + 3 * p))]))) := by
  refine ⟨?_, ?_, ?_, ?_, ?_, ?_, ?_, ?_, ?_, ?_, ?_, ?_, ?_, ?_, ?_, ?_⟩
  · exact (va_up_n (by omega)).trans hw.h0
  · exact (va_up_n (by omega)).trans hw.h1
  · exact (va_up_n (by omega)).trans hw.h2
  · exact (va_up_n (by omega)).trans hw.h3
  · exact (va_up_n (by omega)).trans hw.h4
  · exact (va_up_n (by omega)).trans hw.h5
  · exact (va_up_n (by omega)).trans hw.h6
  · exact (va_up_n (by omega)).trans hw.h7
  · exact (va_up_n (by omega)).trans hw.h8
  · exact (va_up_n (by omega)).trans hw.h9
  · exact fun j hj => (va_up_n (by omega)).trans (hw.pl j hj)
  · exact fun j hj => (va_up_n (by omega)).trans (hw.ct j hj)
  · exact (by
    intro q hq
    by_cases e : q = p
    · subst e; rw [va_up_s]; simp [oK, va_up, s_lost, s_lane, s_w, s_h, s_ct, s_bad, s_cn, s_ca, s_cb, s_cr, s_co, s_nm, s_li, s_lA, s_lB, s_lF, s_lc, s_ln, s_gc, s_gr, s_sn, s_cs, s_cc, s_md, S_lost, S_lane, S_w, S_h, S_ct, S_bad, S_cn, S_ca, S_cb, S_cr, S_co, S_nm, S_li, S_lA, S_lB, S_lF, S_lc, S_ln, S_gc, S_gr, S_sn, S_cs, S_cc, S_md, c_pp, c_sr, c_sl, c_sf, c_sq, c_sp, c_bi, c_ba, c_bb, c_bf, C_pp, C_sr, C_sl, C_sf, C_sq, C_sp, C_bi, C_ba, C_bb, C_bf, m_pm, m_pp, m_mo, m_bA, m_bB, m_hh, m_jA, m_jB, m_jF, M_pm, M_pp, M_mo, M_bA, M_bB, M_hh, M_jA, M_jB, M_jF]
    · rw [va_up_n (by omega), hw.kb q hq]; simp [va_up, e, oK, s_lost, s_lane, s_w, s_h, s_ct, s_bad, s_cn, s_ca, s_cb, s_cr, s_co, s_nm, s_li, s_lA, s_lB, s_lF, s_lc, s_ln, s_gc, s_gr, s_sn, s_cs, s_cc, s_md, S_lost, S_lane, S_w, S_h, S_ct, S_bad, S_cn, S_ca, S_cb, S_cr, S_co, S_nm, S_li, S_lA, S_lB, S_lF, S_lc, S_ln, S_gc, S_gr, S_sn, S_cs, S_cc, S_md, c_pp, c_sr, c_sl, c_sf, c_sq, c_sp, c_bi, c_ba, c_bb, c_bf, C_pp, C_sr, C_sl, C_sf, C_sq, C_sp, C_bi, C_ba, C_bb, C_bf, m_pm, m_pp, m_mo, m_bA, m_bB, m_hh, m_jA, m_jB, m_jF, M_pm, M_pp, M_mo, M_bA, M_bB, M_hh, M_jA, M_jB, M_jF])
  · exact fun j hj => (va_up_n (by omega)).trans (hw.nm j hj)
  · exact fun j hj => (va_up_n (by omega)).trans (hw.lw j hj)
  · exact fun j hj => (va_up_n (by omega)).trans (hw.fr j hj)
theorem i_l3 : (3 : Int32).toInt = 3 := by decide +kernel
theorem i_l4 : (4 : Int32).toInt = 4 := by decide +kernel
theorem i_l6 : (6 : Int32).toInt = 6 := by decide +kernel
theorem i_l7 : (7 : Int32).toInt = 7 := by decide +kernel
theorem i_l8 : (8 : Int32).toInt = 8 := by decide +kernel
theorem i_l9 : (9 : Int32).toInt = 9 := by decide +kernel
theorem i_l12 : (12 : Int32).toInt = 12 := by decide +kernel
theorem i_l16 : (16 : Int32).toInt = 16 := by decide +kernel
theorem i_l20 : (20 : Int32).toInt = 20 := by decide +kernel
theorem i_l60 : (60 : Int32).toInt = 60 := by decide +kernel
theorem i_l64 : (64 : Int32).toInt = 64 := by decide +kernel
theorem i_l100 : (100 : Int32).toInt = 100 := by decide +kernel
theorem i_l200 : (200 : Int32).toInt = 200 := by decide +kernel
theorem i_l304 : (304 : Int32).toInt = 304 := by decide +kernel
theorem i_l2000 : (2000 : Int32).toInt = 2000 := by decide +kernel
theorem i_l10000 : (10000 : Int32).toInt = 10000 := by decide +kernel
theorem i_l100000 : (100000 : Int32).toInt = 100000 := by decide +kernel
theorem i_l1000000 : (1000000 : Int32).toInt = 1000000 := by decide +kernel
theorem i_n1000000 : (-1000000 : Int32).toInt = -1000000 := by decide +kernel
theorem i_n19 : (-19 : Int32).toInt = -19 := by decide +kernel
theorem i_n101 : (-101 : Int32).toInt = -101 := by decide +kernel

set_option maxHeartbeats 4000000 in
set_option maxRecDepth 100000 in
theorem p_plate {G : eG} {ad : Nat → Nat} {h : Nat → va_E} {s : St} {z : Zc} {hm : Nat → va_E} (hw : CW G ad s z hm h) (hI : Inv s) (p : Int32) (lane w t : Int32)  : MC G M_X4_plate cX4_plate ad 54 [.ref (ad 0), .int p, .int lane, .int w, .int t] h (PC G ad hm (.int (f_plate s p lane w t).1) (f_plate s p lane w t).2) := by
  by_cases hp : 0 ≤ p.toInt ∧ p.toInt ≤ 5
  · obtain ⟨k, rfl, ek, lk⟩ := i_nat hp.1
    have hk : k < 6 := by omega
    have e0 : f_plate s (nI k) lane w t = g_plate s k lane w t := by unfold f_plate; rw [if_pos hp, nI_tn (by omega)]
    rw [e0]
    obtain ⟨hI1, hI2, hI3, hI4, hI5, hI6, hI7, hI8, hI9, hI10, hI11, hI12, hI13⟩ := hI
    have hd := hI1 k hk
    refine MC.of (by decide +kernel) (Nat.le_of_ble_eq_true rfl) (by dsimp only [linit, Nat.reduceSub, List.reduceReplicate] <;> rfl) ?_
    refine EV.aload_n (pc := 0) dX4_plate_0 rfl ?_
    refine EV.iload_n (pc := 1) dX4_plate_1 rfl ?_
    refine EV.callVR1 (pc := 2) (M' := M_X4_plateOf) dX4_plate_2 lkX4_55 okV_X4_plateOf (m_plateOf k hw hk) (by decide) rfl rfl (Nat.le_of_ble_eq_true rfl) (by decide) hw.h0 ?_
    refine EV.astore (pc := 5) dX4_plate_5 (by decide) (by dsimp only [lst1, lk] <;> rfl) ?_
    refine EV.aload (pc := 7) dX4_plate_7 rfl ?_
    refine EV.ifnonnull (pc := 9) (tgt := 15) dX4_plate_9 (by decide) ?_
    refine EV.iload_n (pc := 15) dX4_plate_15 rfl ?_
    refine EV.callSR1 (pc := 16) (M' := M_X4_isLane) dX4_plate_16 lkX4_59 okS_X4_isLane (m_isLane _) (by decide) rfl rfl (Nat.le_of_ble_eq_true rfl) ?_
    refine EV.if_eq (pc := 19) (tgt := 44) dX4_plate_19 (by decide) (fun c19 => ?_) (fun c19 => ?_)
    · replace c19 := b2i_F c19
      refine EV.bipush (pc := 44) (v := -102) dX4_plate_44 (by decide) ?_
      refine EV.iret (pc := 46) dX4_plate_46 trivial ?_
      exact PC.i (by unfold g_plate; rw [if_neg (by (try simp only [Int32.lt_iff_toInt_lt, Int32.le_iff_toInt_le, ← Int32.toInt_inj, Int64.lt_iff_toInt_lt, Int64.le_iff_toInt_le, ← Int64.toInt_inj, i_l0, i_l1, i_l2, i_l5, i_l19, i_m1, j_l0, j_l1, j_l5, Int32.toInt_toInt64] at *); (try simp only [show (20 : Int32).toInt = 20 from (by decide +kernel), show (12 : Int32).toInt = 12 from (by decide +kernel), show (4 : Int32).toInt = 4 from (by decide +kernel), show (7 : Int32).toInt = 7 from (by decide +kernel), show (3 : Int32).toInt = 3 from (by decide +kernel), show (304 : Int32).toInt = 304 from (by decide +kernel), show (1000000 : Int32).toInt = 1000000 from (by decide +kernel), show (-1000000 : Int32).toInt = -1000000 from (by decide +kernel), show (100000 : Int32).toInt = 100000 from (by decide +kernel), show (2000 : Int32).toInt = 2000 from (by decide +kernel)] at *); omega)]) hw
    · replace c19 := b2i_T c19
      refine EV.iload_n (pc := 22) dX4_plate_22 rfl ?_
      refine EV.if_eq (pc := 23) (tgt := 44) dX4_plate_23 (by decide) (fun c23 => ?_) (fun c23 => ?_)
      · refine EV.bipush (pc := 44) (v := -102) dX4_plate_44 (by decide) ?_
        refine EV.iret (pc := 46) dX4_plate_46 trivial ?_
        exact PC.i (by unfold g_plate; rw [if_neg (by (try simp only [Int32.lt_iff_toInt_lt, Int32.le_iff_toInt_le, ← Int32.toInt_inj, Int64.lt_iff_toInt_lt, Int64.le_iff_toInt_le, ← Int64.toInt_inj, i_l0, i_l1, i_l2, i_l5, i_l19, i_m1, j_l0, j_l1, j_l5, Int32.toInt_toInt64] at *); (try simp only [show (20 : Int32).toInt = 20 from (by decide +kernel), show (12 : Int32).toInt = 12 from (by decide +kernel), show (4 : Int32).toInt = 4 from (by decide +kernel), show (7 : Int32).toInt = 7 from (by decide +kernel), show (3 : Int32).toInt = 3 from (by decide +kernel), show (304 : Int32).toInt = 304 from (by decide +kernel), show (1000000 : Int32).toInt = 1000000 from (by decide +kernel), show (-1000000 : Int32).toInt = -1000000 from (by decide +kernel), show (100000 : Int32).toInt = 100000 from (by decide +kernel), show (2000 : Int32).toInt = 2000 from (by decide +kernel)] at *); omega)]) hw
      · refine EV.iload_n (pc := 26) dX4_plate_26 rfl ?_
        refine EV.bipush (pc := 27) (v := 20) dX4_plate_27 (by decide) ?_
        refine EV.icmp_gt (pc := 29) (tgt := 44) dX4_plate_29 (by decide) (fun c29 => ?_) (fun c29 => ?_)
        · refine EV.bipush (pc := 44) (v := -102) dX4_plate_44 (by decide) ?_
          refine EV.iret (pc := 46) dX4_plate_46 trivial ?_
          exact PC.i (by unfold g_plate; rw [if_neg (by (try simp only [Int32.lt_iff_toInt_lt, Int32.le_iff_toInt_le, ← Int32.toInt_inj, Int64.lt_iff_toInt_lt, Int64.le_iff_toInt_le, ← Int64.toInt_inj, i_l0, i_l1, i_l2, i_l5, i_l19, i_m1, j_l0, j_l1, j_l5, Int32.toInt_toInt64] at *); (try simp only [show (20 : Int32).toInt = 20 from (by decide +kernel), show (12 : Int32).toInt = 12 from (by decide +kernel), show (4 : Int32).toInt = 4 from (by decide +kernel), show (7 : Int32).toInt = 7 from (by decide +kernel), show (3 : Int32).toInt = 3 from (by decide +kernel), show (304 : Int32).toInt = 304 from (by decide +kernel), show (1000000 : Int32).toInt = 1000000 from (by decide +kernel), show (-1000000 : Int32).toInt = -1000000 from (by decide +kernel), show (100000 : Int32).toInt = 100000 from (by decide +kernel), show (2000 : Int32).toInt = 2000 from (by decide +kernel)] at *); omega)]) hw
        · refine EV.iload (pc := 32) dX4_plate_32 rfl ?_
          refine EV.if_eq (pc := 34) (tgt := 44) dX4_plate_34 (by decide) (fun c34 => ?_) (fun c34 => ?_)
          · refine EV.bipush (pc := 44) (v := -102) dX4_plate_44 (by decide) ?_
            refine EV.iret (pc := 46) dX4_plate_46 trivial ?_
            exact PC.i (by unfold g_plate; rw [if_neg (by (try simp only [Int32.lt_iff_toInt_lt, Int32.le_iff_toInt_le, ← Int32.toInt_inj, Int64.lt_iff_toInt_lt, Int64.le_iff_toInt_le, ← Int64.toInt_inj, i_l0, i_l1, i_l2, i_l5, i_l19, i_m1, j_l0, j_l1, j_l5, Int32.toInt_toInt64] at *); (try simp only [show (20 : Int32).toInt = 20 from (by decide +kernel), show (12 : Int32).toInt = 12 from (by decide +kernel), show (4 : Int32).toInt = 4 from (by decide +kernel), show (7 : Int32).toInt = 7 from (by decide +kernel), show (3 : Int32).toInt = 3 from (by decide +kernel), show (304 : Int32).toInt = 304 from (by decide +kernel), show (1000000 : Int32).toInt = 1000000 from (by decide +kernel), show (-1000000 : Int32).toInt = -1000000 from (by decide +kernel), show (100000 : Int32).toInt = 100000 from (by decide +kernel), show (2000 : Int32).toInt = 2000 from (by decide +kernel)] at *); omega)]) hw
          · refine EV.iload (pc := 37) dX4_plate_37 rfl ?_
            refine EV.bipush (pc := 39) (v := 20) dX4_plate_39 (by decide) ?_
            refine EV.icmp_le (pc := 41) (tgt := 47) dX4_plate_41 (by decide) (fun c41 => ?_) (fun c41 => ?_)
            · refine EV.iload_n (pc := 47) dX4_plate_47 rfl ?_
              refine EV.if_lt (pc := 48) (tgt := 56) dX4_plate_48 (by decide) (fun c48 => ?_) (fun c48 => ?_)
              · refine EV.aload_n (pc := 56) dX4_plate_56 rfl ?_
                refine EV.iconst (pc := 57) (v := 3) dX4_plate_57 (by decide) ?_
                refine EV.callVPi (pc := 58) (M' := M_X4_caused) dX4_plate_58 lkX4_63 okV_X4_caused (m_caused 3 hw (by omega)) (by decide) rfl rfl (Nat.le_of_ble_eq_true rfl) (by decide) hw.h0 (fun h hw => ?_)
                refine EV.topi (y := -13) (by decide +kernel) ?_
                refine EV.iret (pc := 61) dX4_plate_61 trivial ?_
                exact PC.i (by unfold g_plate; rw [if_pos (by (try simp only [Int32.lt_iff_toInt_lt, Int32.le_iff_toInt_le, ← Int32.toInt_inj, Int64.lt_iff_toInt_lt, Int64.le_iff_toInt_le, ← Int64.toInt_inj, i_l0, i_l1, i_l2, i_l5, i_l19, i_m1, j_l0, j_l1, j_l5, Int32.toInt_toInt64] at *); (try simp only [show (20 : Int32).toInt = 20 from (by decide +kernel), show (12 : Int32).toInt = 12 from (by decide +kernel), show (4 : Int32).toInt = 4 from (by decide +kernel), show (7 : Int32).toInt = 7 from (by decide +kernel), show (3 : Int32).toInt = 3 from (by decide +kernel), show (304 : Int32).toInt = 304 from (by decide +kernel), show (1000000 : Int32).toInt = 1000000 from (by decide +kernel), show (-1000000 : Int32).toInt = -1000000 from (by decide +kernel), show (100000 : Int32).toInt = 100000 from (by decide +kernel), show (2000 : Int32).toInt = 2000 from (by decide +kernel)] at *); omega), if_pos (by (try simp only [Int32.lt_iff_toInt_lt, Int32.le_iff_toInt_le, ← Int32.toInt_inj, Int64.lt_iff_toInt_lt, Int64.le_iff_toInt_le, ← Int64.toInt_inj, i_l0, i_l1, i_l2, i_l5, i_l19, i_m1, j_l0, j_l1, j_l5, Int32.toInt_toInt64] at *); (try simp only [show (20 : Int32).toInt = 20 from (by decide +kernel), show (12 : Int32).toInt = 12 from (by decide +kernel), show (4 : Int32).toInt = 4 from (by decide +kernel), show (7 : Int32).toInt = 7 from (by decide +kernel), show (3 : Int32).toInt = 3 from (by decide +kernel), show (304 : Int32).toInt = 304 from (by decide +kernel), show (1000000 : Int32).toInt = 1000000 from (by decide +kernel), show (-1000000 : Int32).toInt = -1000000 from (by decide +kernel), show (100000 : Int32).toInt = 100000 from (by decide +kernel), show (2000 : Int32).toInt = 2000 from (by decide +kernel)] at *); omega)]) hw
              · refine EV.iload (pc := 51) dX4_plate_51 rfl ?_
                refine EV.if_ge (pc := 53) (tgt := 62) dX4_plate_53 (by decide) (fun c53 => ?_) (fun c53 => ?_)
                · have hc := c19
                  (try simp only [Int32.lt_iff_toInt_lt, Int32.le_iff_toInt_le, ← Int32.toInt_inj, Int64.lt_iff_toInt_lt, Int64.le_iff_toInt_le, ← Int64.toInt_inj, i_l0, i_l1, i_l2, i_l5, i_l19, i_m1, j_l0, j_l1, j_l5, Int32.toInt_toInt64] at *); (try simp only [show (20 : Int32).toInt = 20 from (by decide +kernel), show (12 : Int32).toInt = 12 from (by decide +kernel), show (4 : Int32).toInt = 4 from (by decide +kernel), show (7 : Int32).toInt = 7 from (by decide +kernel), show (3 : Int32).toInt = 3 from (by decide +kernel), show (304 : Int32).toInt = 304 from (by decide +kernel), show (1000000 : Int32).toInt = 1000000 from (by decide +kernel), show (-1000000 : Int32).toInt = -1000000 from (by decide +kernel), show (100000 : Int32).toInt = 100000 from (by decide +kernel), show (2000 : Int32).toInt = 2000 from (by decide +kernel)] at *)
                  obtain ⟨l1, rfl, el1, ll1⟩ := i_nat (show 0 ≤ lane.toInt by omega)
                  obtain ⟨w1, rfl, ew1, lw1⟩ := i_nat (show 0 ≤ w.toInt by omega)
                  obtain ⟨t1, rfl, et1, lt1⟩ := i_nat (show 0 ≤ t.toInt by omega)
                  refine EV.aload (pc := 62) dX4_plate_62 rfl ?_
                  refine EV.iload_n (pc := 64) dX4_plate_64 rfl ?_
                  refine EV.iload_n (pc := 65) dX4_plate_65 rfl ?_
                  refine EV.iload (pc := 66) dX4_plate_66 rfl ?_
                  refine EV.callVR0 (pc := 68) (M' := M_X2_renew) dX4_plate_68 lkX4_67 okV_X2_renew (m_renew (10 + 2 * k) (11 + 2 * k) (b2i (s_lost s k)) (nI (s_lane s k)) (nI (s_w s k)) (nI (s_h s k)) (s_ct s k) _ _ _ (by omega) (by omega) (by omega) (hw.pl' hk) (hw.ct k hk)) (by decide) rfl rfl (Nat.le_of_ble_eq_true rfl) (show 10 + 2 * k < 54 by omega) (hw.pl' hk) ?_
                  refine EV.abs (Pr := CW G ad (S_ct (S_h (S_w (S_lane (S_lost s (va_up (s_lost s) k false)) (va_up (s_lane s) k l1)) (va_up (s_w s) k w1)) (va_up (s_h s) k t1)) (va_up (s_ct s) k (fz (s_ct s k) 400))) z hm) ((hw.set_pl k false l1 w1 t1 hk).set_ct k (fz (s_ct s k) 400) hk) (fun h hw => ?_)
                  refine EV.iload_n (pc := 71) dX4_plate_71 rfl ?_
                  refine EV.iret (pc := 72) dX4_plate_72 trivial ?_
                  exact PC.i (by unfold g_plate; rw [if_pos (by omega), if_neg (by omega), nI_tn (by omega), nI_tn (by omega), nI_tn (by omega)]) hw
                · refine EV.aload_n (pc := 56) dX4_plate_56 rfl ?_
                  refine EV.iconst (pc := 57) (v := 3) dX4_plate_57 (by decide) ?_
                  refine EV.callVPi (pc := 58) (M' := M_X4_caused) dX4_plate_58 lkX4_63 okV_X4_caused (m_caused 3 hw (by omega)) (by decide) rfl rfl (Nat.le_of_ble_eq_true rfl) (by decide) hw.h0 (fun h hw => ?_)
                  refine EV.topi (y := -13) (by decide +kernel) ?_
                  refine EV.iret (pc := 61) dX4_plate_61 trivial ?_
                  exact PC.i (by unfold g_plate; rw [if_pos (by (try simp only [Int32.lt_iff_toInt_lt, Int32.le_iff_toInt_le, ← Int32.toInt_inj, Int64.lt_iff_toInt_lt, Int64.le_iff_toInt_le, ← Int64.toInt_inj, i_l0, i_l1, i_l2, i_l5, i_l19, i_m1, j_l0, j_l1, j_l5, Int32.toInt_toInt64] at *); (try simp only [show (20 : Int32).toInt = 20 from (by decide +kernel), show (12 : Int32).toInt = 12 from (by decide +kernel), show (4 : Int32).toInt = 4 from (by decide +kernel), show (7 : Int32).toInt = 7 from (by decide +kernel), show (3 : Int32).toInt = 3 from (by decide +kernel), show (304 : Int32).toInt = 304 from (by decide +kernel), show (1000000 : Int32).toInt = 1000000 from (by decide +kernel), show (-1000000 : Int32).toInt = -1000000 from (by decide +kernel), show (100000 : Int32).toInt = 100000 from (by decide +kernel), show (2000 : Int32).toInt = 2000 from (by decide +kernel)] at *); omega), if_pos (by (try simp only [Int32.lt_iff_toInt_lt, Int32.le_iff_toInt_le, ← Int32.toInt_inj, Int64.lt_iff_toInt_lt, Int64.le_iff_toInt_le, ← Int64.toInt_inj, i_l0, i_l1, i_l2, i_l5, i_l19, i_m1, j_l0, j_l1, j_l5, Int32.toInt_toInt64] at *); (try simp only [show (20 : Int32).toInt = 20 from (by decide +kernel), show (12 : Int32).toInt = 12 from (by decide +kernel), show (4 : Int32).toInt = 4 from (by decide +kernel), show (7 : Int32).toInt = 7 from (by decide +kernel), show (3 : Int32).toInt = 3 from (by decide +kernel), show (304 : Int32).toInt = 304 from (by decide +kernel), show (1000000 : Int32).toInt = 1000000 from (by decide +kernel), show (-1000000 : Int32).toInt = -1000000 from (by decide +kernel), show (100000 : Int32).toInt = 100000 from (by decide +kernel), show (2000 : Int32).toInt = 2000 from (by decide +kernel)] at *); omega)]) hw
            · refine EV.bipush (pc := 44) (v := -102) dX4_plate_44 (by decide) ?_
              refine EV.iret (pc := 46) dX4_plate_46 trivial ?_
              exact PC.i (by unfold g_plate; rw [if_neg (by (try simp only [Int32.lt_iff_toInt_lt, Int32.le_iff_toInt_le, ← Int32.toInt_inj, Int64.lt_iff_toInt_lt, Int64.le_iff_toInt_le, ← Int64.toInt_inj, i_l0, i_l1, i_l2, i_l5, i_l19, i_m1, j_l0, j_l1, j_l5, Int32.toInt_toInt64] at *); (try simp only [show (20 : Int32).toInt = 20 from (by decide +kernel), show (12 : Int32).toInt = 12 from (by decide +kernel), show (4 : Int32).toInt = 4 from (by decide +kernel), show (7 : Int32).toInt = 7 from (by decide +kernel), show (3 : Int32).toInt = 3 from (by decide +kernel), show (304 : Int32).toInt = 304 from (by decide +kernel), show (1000000 : Int32).toInt = 1000000 from (by decide +kernel), show (-1000000 : Int32).toInt = -1000000 from (by decide +kernel), show (100000 : Int32).toInt = 100000 from (by decide +kernel), show (2000 : Int32).toInt = 2000 from (by decide +kernel)] at *); omega)]) hw
  · have e0 : f_plate s p lane w t = (-101, s) := by unfold f_plate; rw [if_neg hp]
    rw [e0]
    refine MC.of (by decide +kernel) (Nat.le_of_ble_eq_true rfl) (by dsimp only [linit, Nat.reduceSub, List.reduceReplicate] <;> rfl) ?_
    refine EV.aload_n (pc := 0) dX4_plate_0 rfl ?_
    refine EV.iload_n (pc := 1) dX4_plate_1 rfl ?_
    refine EV.callVR1 (pc := 2) (M' := M_X4_plateOf) dX4_plate_2 lkX4_55 okV_X4_plateOf (m_plateOfN p hw hp) (by decide) rfl rfl (Nat.le_of_ble_eq_true rfl) (by decide) hw.h0 ?_
    refine EV.astoreN (pc := 5) dX4_plate_5 (by decide) (by dsimp only [lst1, lk] <;> rfl) ?_
    refine EV.aloadN (pc := 7) dX4_plate_7 rfl ?_
    refine EV.ifnonnullN (pc := 9) dX4_plate_9 ?_
    refine EV.bipush (pc := 12) (v := -101) dX4_plate_12 (by decide) ?_
    exact EV.iret (pc := 14) dX4_plate_14 trivial ⟨rfl, z, hw⟩

set_option maxHeartbeats 4000000 in
set_option maxRecDepth 100000 in
theorem p_bad {G : eG} {ad : Nat → Nat} {h : Nat → va_E} {s : St} {z : Zc} {hm : Nat → va_E} (hw : CW G ad s z hm h) (hI : Inv s) (x y : Int32) (b : Bool)  : MC G M_X4_bad cX4_bad ad 54 [.ref (ad 0), .int x, .int y, .int (b2i b)] h (PC G ad hm (.int (f_bad s x y b).1) (f_bad s x y b).2) := by
  refine MC.of (by decide +kernel) (Nat.le_of_ble_eq_true rfl) (by dsimp only [linit, Nat.reduceSub, List.reduceReplicate] <;> rfl) ?_
  refine EV.iload_n (pc := 0) dX4_bad_0 rfl ?_
  refine EV.iload_n (pc := 1) dX4_bad_1 rfl ?_
  refine EV.callSR1 (pc := 2) (M' := M_X4_isCell) dX4_bad_2 lkX4_100 okS_X4_isCell (m_isCell _ _) (by decide) rfl rfl (Nat.le_of_ble_eq_true rfl) ?_
  refine EV.if_ne (pc := 5) (tgt := 11) dX4_bad_5 (by decide) (fun c5 => ?_) (fun c5 => ?_)
  · replace c5 := b2i_T c5
    have hx := p_ix (x := x) (y := y) (w := 20) (w2 := 20) (by omega) (by omega) (by omega)
    refine EV.aload_n (pc := 11) dX4_bad_11 rfl ?_
    refine EV.getf (pc := 12) dX4_bad_12 fgX4_15 (by decide) hw.h0 rfl ?_
    refine EV.iload_n (pc := 15) dX4_bad_15 rfl ?_
    refine EV.bipush (pc := 16) (v := 20) dX4_bad_16 (by decide) ?_
    refine EV.imul (pc := 18) dX4_bad_18 ?_
    refine EV.iload_n (pc := 19) dX4_bad_19 rfl ?_
    refine EV.iadd (pc := 20) dX4_bad_20 ?_
    refine EV.zald (pc := 21) dX4_bad_21 (by decide) hw.h2 hx.1 ?_
    refine EV.topi (y := b2i (s_bad s (y.toInt.toNat * 20 + x.toInt.toNat))) (by rw [hx.2]) ?_
    refine EV.if_eq (pc := 22) (tgt := 29) dX4_bad_22 (by decide) (fun c22 => ?_) (fun c22 => ?_)
    · refine EV.iconst (pc := 29) (v := 0) dX4_bad_29 (by decide) ?_
      refine EV.istore (pc := 30) dX4_bad_30 (by decide) (by dsimp only [lst1, lk] <;> rfl) ?_
      refine EV.aload_n (pc := 32) dX4_bad_32 rfl ?_
      refine EV.getf (pc := 33) dX4_bad_33 fgX4_15 (by decide) hw.h0 rfl ?_
      refine EV.iload_n (pc := 36) dX4_bad_36 rfl ?_
      refine EV.bipush (pc := 37) (v := 20) dX4_bad_37 (by decide) ?_
      refine EV.imul (pc := 39) dX4_bad_39 ?_
      refine EV.iload_n (pc := 40) dX4_bad_40 rfl ?_
      refine EV.iadd (pc := 41) dX4_bad_41 ?_
      refine EV.iload_n (pc := 42) dX4_bad_42 rfl ?_
      refine EV.zast (pc := 43) dX4_bad_43 (by decide) hw.h2 hx.1 ?_
      refine EV.abs (Pr := CW G ad (S_bad s (va_up (s_bad s) (y.toInt.toNat * 20 + x.toInt.toNat) b)) z hm) (by have q := hw.set_bad (y.toInt.toNat * 20 + x.toInt.toNat) b; rw [b2i_vp, hx.2]; exact q) (fun h hw => ?_)
      refine EV.iload (pc := 44) dX4_bad_44 rfl ?_
      refine EV.iret (pc := 46) dX4_bad_46 trivial ?_
      exact PC.i (by unfold f_bad; rw [if_pos c5]; first | (rw [b2i_eq c22]; rfl) | (rw [b2i_ne c22]; rfl)) hw
    · refine EV.iconst (pc := 25) (v := 1) dX4_bad_25 (by decide) ?_
      refine EV.goto (pc := 26) (tgt := 30) dX4_bad_26 (by decide) ?_
      refine EV.istore (pc := 30) dX4_bad_30 (by decide) (by dsimp only [lst1, lk] <;> rfl) ?_
      refine EV.aload_n (pc := 32) dX4_bad_32 rfl ?_
      refine EV.getf (pc := 33) dX4_bad_33 fgX4_15 (by decide) hw.h0 rfl ?_
      refine EV.iload_n (pc := 36) dX4_bad_36 rfl ?_
      refine EV.bipush (pc := 37) (v := 20) dX4_bad_37 (by decide) ?_
      refine EV.imul (pc := 39) dX4_bad_39 ?_
      refine EV.iload_n (pc := 40) dX4_bad_40 rfl ?_
      refine EV.iadd (pc := 41) dX4_bad_41 ?_
      refine EV.iload_n (pc := 42) dX4_bad_42 rfl ?_
      refine EV.zast (pc := 43) dX4_bad_43 (by decide) hw.h2 hx.1 ?_
      refine EV.abs (Pr := CW G ad (S_bad s (va_up (s_bad s) (y.toInt.toNat * 20 + x.toInt.toNat) b)) z hm) (by have q := hw.set_bad (y.toInt.toNat * 20 + x.toInt.toNat) b; rw [b2i_vp, hx.2]; exact q) (fun h hw => ?_)
      refine EV.iload (pc := 44) dX4_bad_44 rfl ?_
      refine EV.iret (pc := 46) dX4_bad_46 trivial ?_
      exact PC.i (by unfold f_bad; rw [if_pos c5]; first | (rw [b2i_eq c22]; rfl) | (rw [b2i_ne c22]; rfl)) hw
  · replace c5 := b2i_F c5
    refine EV.bipush (pc := 8) (v := -102) dX4_bad_8 (by decide) ?_
    refine EV.iret (pc := 10) dX4_bad_10 trivial ?_
    exact PC.i (by unfold f_bad; rw [if_neg c5]) hw

set_option maxHeartbeats 4000000 in
set_option maxRecDepth 100000 in
theorem p_line {G : eG} {ad : Nat → Nat} {h : Nat → va_E} {s : St} {z : Zc} {hm : Nat → va_E} (hw : CW G ad s z hm h) (hI : Inv s) (u : Int32)  : MC G M_X4_line cX4_line ad 54 [.ref (ad 0), .int u] h (PC G ad hm (.int (f_line s u).1) (f_line s u).2) := by
  have hlc : s_lc s ≤ 12 := hI.2.2.2.2.2.2.2.1
  have en := nI_t (show s_lc s < 2147483648 by omega)
  clear hI
  refine MC.of (by decide +kernel) (Nat.le_of_ble_eq_true rfl) (by dsimp only [linit, Nat.reduceSub, List.reduceReplicate] <;> rfl) ?_
  refine EV.iload_n (pc := 0) dX4_line_0 rfl ?_
  refine EV.iconst (pc := 1) (v := 1) dX4_line_1 (by decide) ?_
  refine EV.ldc (pc := 2) dX4_line_2 kcX4_171 ?_
  refine EV.callSR1 (pc := 4) (M' := M_X4_within) dX4_line_4 lkX4_106 okS_X4_within (m_within _ _ _) (by decide) rfl rfl (Nat.le_of_ble_eq_true rfl) ?_
  refine EV.if_eq (pc := 7) (tgt := 32) dX4_line_7 (by decide) (fun c7 => ?_) (fun c7 => ?_)
  · replace c7 := b2i_F c7
    try simp only [Int32.lt_iff_toInt_lt, Int32.le_iff_toInt_le, ← Int32.toInt_inj, Int64.lt_iff_toInt_lt, Int64.le_iff_toInt_le, ← Int64.toInt_inj, Int32.toInt_toInt64, i_l0, i_l1, i_l2, i_l5, i_l19, i_m1, j_l0, j_l1, j_l5, i_l3, i_l4, i_l6, i_l7, i_l8, i_l9, i_l12, i_l16, i_l20, i_l60, i_l64, i_l100, i_l200, i_l304, i_l2000, i_l10000, i_l100000, i_l1000000, i_n1000000, i_n19, i_n101, en] at c7
    refine EV.bipush (pc := 32) (v := -102) dX4_line_32 (by decide) ?_
    refine EV.iret (pc := 34) dX4_line_34 trivial ?_
    exact PC.i (by unfold f_line; rw [if_neg (by omega)]) hw
  · replace c7 := b2i_T c7
    try simp only [Int32.lt_iff_toInt_lt, Int32.le_iff_toInt_le, ← Int32.toInt_inj, Int64.lt_iff_toInt_lt, Int64.le_iff_toInt_le, ← Int64.toInt_inj, Int32.toInt_toInt64, i_l0, i_l1, i_l2, i_l5, i_l19, i_m1, j_l0, j_l1, j_l5, i_l3, i_l4, i_l6, i_l7, i_l8, i_l9, i_l12, i_l16, i_l20, i_l60, i_l64, i_l100, i_l200, i_l304, i_l2000, i_l10000, i_l100000, i_l1000000, i_n1000000, i_n19, i_n101, en] at c7
    refine EV.aload_n (pc := 10) dX4_line_10 rfl ?_
    refine EV.getf (pc := 11) dX4_line_11 fgX4_172 (by decide) hw.h0 rfl ?_
    refine EV.if_le (pc := 14) (tgt := 35) dX4_line_14 (by decide) (fun c14 => ?_) (fun c14 => ?_)
    · try simp only [Int32.lt_iff_toInt_lt, Int32.le_iff_toInt_le, ← Int32.toInt_inj, Int64.lt_iff_toInt_lt, Int64.le_iff_toInt_le, ← Int64.toInt_inj, Int32.toInt_toInt64, i_l0, i_l1, i_l2, i_l5, i_l19, i_m1, j_l0, j_l1, j_l5, i_l3, i_l4, i_l6, i_l7, i_l8, i_l9, i_l12, i_l16, i_l20, i_l60, i_l64, i_l100, i_l200, i_l304, i_l2000, i_l10000, i_l100000, i_l1000000, i_n1000000, i_n19, i_n101, en] at c14
      refine EV.aload_n (pc := 35) dX4_line_35 rfl ?_
      refine EV.getf (pc := 36) dX4_line_36 fgX4_172 (by decide) hw.h0 rfl ?_
      refine EV.bipush (pc := 39) (v := 12) dX4_line_39 (by decide) ?_
      refine EV.icmp_lt (pc := 41) (tgt := 47) dX4_line_41 (by decide) (fun c41 => ?_) (fun c41 => ?_)
      · try simp only [Int32.lt_iff_toInt_lt, Int32.le_iff_toInt_le, ← Int32.toInt_inj, Int64.lt_iff_toInt_lt, Int64.le_iff_toInt_le, ← Int64.toInt_inj, Int32.toInt_toInt64, i_l0, i_l1, i_l2, i_l5, i_l19, i_m1, j_l0, j_l1, j_l5, i_l3, i_l4, i_l6, i_l7, i_l8, i_l9, i_l12, i_l16, i_l20, i_l60, i_l64, i_l100, i_l200, i_l304, i_l2000, i_l10000, i_l100000, i_l1000000, i_n1000000, i_n19, i_n101, en] at c41
        refine EV.aload_n (pc := 47) dX4_line_47 rfl ?_
        refine EV.getf (pc := 48) dX4_line_48 fgX4_25 (by decide) hw.h0 rfl ?_
        refine EV.aload_n (pc := 51) dX4_line_51 rfl ?_
        refine EV.getf (pc := 52) dX4_line_52 fgX4_172 (by decide) hw.h0 rfl ?_
        refine EV.iload_n (pc := 55) dX4_line_55 rfl ?_
        refine EV.iast (pc := 56) dX4_line_56 (by decide) hw.h4 (vp_in_nI (show s_lc s < 12 by omega) (by omega)) ?_
        refine EV.abs (Pr := CW G ad (S_ln s (upd (s_ln s) (s_lc s) u)) z hm) (by have q := hw.set_ln (s_lc s) u; rw [nI_clamp (by omega)]; exact q) (fun h hw => ?_)
        refine EV.aload_n (pc := 57) dX4_line_57 rfl ?_
        refine EV.dup (pc := 58) dX4_line_58 rfl ?_
        refine EV.getf (pc := 59) dX4_line_59 fgX4_172 (by decide) hw.h0 rfl ?_
        refine EV.iconst (pc := 62) (v := 1) dX4_line_62 (by decide) ?_
        refine EV.iadd (pc := 63) dX4_line_63 ?_
        refine EV.topi (y := nI (s_lc s + 1)) (nI_p1 _) ?_
        refine EV.putf (pc := 64) dX4_line_64 fpX4_172 (by decide) hw.h0 rfl rfl (Nat.le_of_ble_eq_true rfl) ?_
        refine EV.abs (Pr := CW G ad (S_lc (S_ln s (upd (s_ln s) (s_lc s) u)) (s_lc s + 1)) z hm) (hw.set_lc (s_lc s + 1)) (fun h hw => ?_)
        refine EV.aload_n (pc := 67) dX4_line_67 rfl ?_
        refine EV.getf (pc := 68) dX4_line_68 fgX4_172 (by decide) hw.h0 rfl ?_
        refine EV.iret (pc := 71) dX4_line_71 trivial ?_
        exact PC.i (by unfold f_line; rw [if_pos (by omega), if_pos (by omega)]) hw
      · try simp only [Int32.lt_iff_toInt_lt, Int32.le_iff_toInt_le, ← Int32.toInt_inj, Int64.lt_iff_toInt_lt, Int64.le_iff_toInt_le, ← Int64.toInt_inj, Int32.toInt_toInt64, i_l0, i_l1, i_l2, i_l5, i_l19, i_m1, j_l0, j_l1, j_l5, i_l3, i_l4, i_l6, i_l7, i_l8, i_l9, i_l12, i_l16, i_l20, i_l60, i_l64, i_l100, i_l200, i_l304, i_l2000, i_l10000, i_l100000, i_l1000000, i_n1000000, i_n19, i_n101, en] at c41
        refine EV.bipush (pc := 44) (v := -104) dX4_line_44 (by decide) ?_
        refine EV.iret (pc := 46) dX4_line_46 trivial ?_
        exact PC.i (by unfold f_line; rw [if_pos (by omega), if_neg (by omega)]) hw
    · try simp only [Int32.lt_iff_toInt_lt, Int32.le_iff_toInt_le, ← Int32.toInt_inj, Int64.lt_iff_toInt_lt, Int64.le_iff_toInt_le, ← Int64.toInt_inj, Int32.toInt_toInt64, i_l0, i_l1, i_l2, i_l5, i_l19, i_m1, j_l0, j_l1, j_l5, i_l3, i_l4, i_l6, i_l7, i_l8, i_l9, i_l12, i_l16, i_l20, i_l60, i_l64, i_l100, i_l200, i_l304, i_l2000, i_l10000, i_l100000, i_l1000000, i_n1000000, i_n19, i_n101, en] at c14
      refine EV.iload_n (pc := 17) dX4_line_17 rfl ?_
      refine EV.aload_n (pc := 18) dX4_line_18 rfl ?_
      refine EV.getf (pc := 19) dX4_line_19 fgX4_25 (by decide) hw.h0 rfl ?_
      refine EV.aload_n (pc := 22) dX4_line_22 rfl ?_
      refine EV.getf (pc := 23) dX4_line_23 fgX4_172 (by decide) hw.h0 rfl ?_
      refine EV.iconst (pc := 26) (v := 1) dX4_line_26 (by decide) ?_
      refine EV.isub (pc := 27) dX4_line_27 ?_
      refine EV.topi (y := nI (s_lc s - 1)) (nI_m1 (show 1 ≤ s_lc s by omega)) ?_
      refine EV.iald (pc := 28) dX4_line_28 (by decide) hw.h4 (vp_in_nI (show s_lc s - 1 < 12 by omega) (by omega)) ?_
      refine EV.topi (y := s_ln s (s_lc s - 1)) (by rw [nI_clamp (by omega)]) ?_
      refine EV.icmp_gt (pc := 29) (tgt := 35) dX4_line_29 (by decide) (fun c29 => ?_) (fun c29 => ?_)
      · try simp only [Int32.lt_iff_toInt_lt, Int32.le_iff_toInt_le, ← Int32.toInt_inj, Int64.lt_iff_toInt_lt, Int64.le_iff_toInt_le, ← Int64.toInt_inj, Int32.toInt_toInt64, i_l0, i_l1, i_l2, i_l5, i_l19, i_m1, j_l0, j_l1, j_l5, i_l3, i_l4, i_l6, i_l7, i_l8, i_l9, i_l12, i_l16, i_l20, i_l60, i_l64, i_l100, i_l200, i_l304, i_l2000, i_l10000, i_l100000, i_l1000000, i_n1000000, i_n19, i_n101, en] at c29
        refine EV.aload_n (pc := 35) dX4_line_35 rfl ?_
        refine EV.getf (pc := 36) dX4_line_36 fgX4_172 (by decide) hw.h0 rfl ?_
        refine EV.bipush (pc := 39) (v := 12) dX4_line_39 (by decide) ?_
        refine EV.icmp_lt (pc := 41) (tgt := 47) dX4_line_41 (by decide) (fun c41 => ?_) (fun c41 => ?_)
        · try simp only [Int32.lt_iff_toInt_lt, Int32.le_iff_toInt_le, ← Int32.toInt_inj, Int64.lt_iff_toInt_lt, Int64.le_iff_toInt_le, ← Int64.toInt_inj, Int32.toInt_toInt64, i_l0, i_l1, i_l2, i_l5, i_l19, i_m1, j_l0, j_l1, j_l5, i_l3, i_l4, i_l6, i_l7, i_l8, i_l9, i_l12, i_l16, i_l20, i_l60, i_l64, i_l100, i_l200, i_l304, i_l2000, i_l10000, i_l100000, i_l1000000, i_n1000000, i_n19, i_n101, en] at c41
          refine EV.aload_n (pc := 47) dX4_line_47 rfl ?_
          refine EV.getf (pc := 48) dX4_line_48 fgX4_25 (by decide) hw.h0 rfl ?_
          refine EV.aload_n (pc := 51) dX4_line_51 rfl ?_
          refine EV.getf (pc := 52) dX4_line_52 fgX4_172 (by decide) hw.h0 rfl ?_
          refine EV.iload_n (pc := 55) dX4_line_55 rfl ?_
          refine EV.iast (pc := 56) dX4_line_56 (by decide) hw.h4 (vp_in_nI (show s_lc s < 12 by omega) (by omega)) ?_
          refine EV.abs (Pr := CW G ad (S_ln s (upd (s_ln s) (s_lc s) u)) z hm) (by have q := hw.set_ln (s_lc s) u; rw [nI_clamp (by omega)]; exact q) (fun h hw => ?_)
          refine EV.aload_n (pc := 57) dX4_line_57 rfl ?_
          refine EV.dup (pc := 58) dX4_line_58 rfl ?_
          refine EV.getf (pc := 59) dX4_line_59 fgX4_172 (by decide) hw.h0 rfl ?_
          refine EV.iconst (pc := 62) (v := 1) dX4_line_62 (by decide) ?_
          refine EV.iadd (pc := 63) dX4_line_63 ?_
          refine EV.topi (y := nI (s_lc s + 1)) (nI_p1 _) ?_
          refine EV.putf (pc := 64) dX4_line_64 fpX4_172 (by decide) hw.h0 rfl rfl (Nat.le_of_ble_eq_true rfl) ?_
          refine EV.abs (Pr := CW G ad (S_lc (S_ln s (upd (s_ln s) (s_lc s) u)) (s_lc s + 1)) z hm) (hw.set_lc (s_lc s + 1)) (fun h hw => ?_)
          refine EV.aload_n (pc := 67) dX4_line_67 rfl ?_
          refine EV.getf (pc := 68) dX4_line_68 fgX4_172 (by decide) hw.h0 rfl ?_
          refine EV.iret (pc := 71) dX4_line_71 trivial ?_
          exact PC.i (by unfold f_line; rw [if_pos (by omega), if_pos (by omega)]) hw
        · try simp only [Int32.lt_iff_toInt_lt, Int32.le_iff_toInt_le, ← Int32.toInt_inj, Int64.lt_iff_toInt_lt, Int64.le_iff_toInt_le, ← Int64.toInt_inj, Int32.toInt_toInt64, i_l0, i_l1, i_l2, i_l5, i_l19, i_m1, j_l0, j_l1, j_l5, i_l3, i_l4, i_l6, i_l7, i_l8, i_l9, i_l12, i_l16, i_l20, i_l60, i_l64, i_l100, i_l200, i_l304, i_l2000, i_l10000, i_l100000, i_l1000000, i_n1000000, i_n19, i_n101, en] at c41
          refine EV.bipush (pc := 44) (v := -104) dX4_line_44 (by decide) ?_
          refine EV.iret (pc := 46) dX4_line_46 trivial ?_
          exact PC.i (by unfold f_line; rw [if_pos (by omega), if_neg (by omega)]) hw
      · try simp only [Int32.lt_iff_toInt_lt, Int32.le_iff_toInt_le, ← Int32.toInt_inj, Int64.lt_iff_toInt_lt, Int64.le_iff_toInt_le, ← Int64.toInt_inj, Int32.toInt_toInt64, i_l0, i_l1, i_l2, i_l5, i_l19, i_m1, j_l0, j_l1, j_l5, i_l3, i_l4, i_l6, i_l7, i_l8, i_l9, i_l12, i_l16, i_l20, i_l60, i_l64, i_l100, i_l200, i_l304, i_l2000, i_l10000, i_l100000, i_l1000000, i_n1000000, i_n19, i_n101, en] at c29
        refine EV.bipush (pc := 32) (v := -102) dX4_line_32 (by decide) ?_
        refine EV.iret (pc := 34) dX4_line_34 trivial ?_
        exact PC.i (by unfold f_line; rw [if_neg (by omega)]) hw

set_option maxHeartbeats 4000000 in
set_option maxRecDepth 100000 in
theorem p_comb {G : eG} {ad : Nat → Nat} {h : Nat → va_E} {s : St} {z : Zc} {hm : Nat → va_E} (hw : CW G ad s z hm h) (hI : Inv s) (a b r : Int32)  : MC G M_X4_comb cX4_comb ad 54 [.ref (ad 0), .int a, .int b, .int r] h (PC G ad hm (.int (f_comb s a b r).1) (f_comb s a b r).2) := by
  have hcn : s_cn s ≤ 4 := hI.2.2.1
  have en := nI_t (show s_cn s < 2147483648 by omega)
  clear hI
  refine MC.of (by decide +kernel) (Nat.le_of_ble_eq_true rfl) (by dsimp only [linit, Nat.reduceSub, List.reduceReplicate] <;> rfl) ?_
  refine EV.iload_n (pc := 0) dX4_comb_0 rfl ?_
  refine EV.iconst (pc := 1) (v := 0) dX4_comb_1 (by decide) ?_
  refine EV.sipush (pc := 2) (v := 304) dX4_comb_2 (by decide) ?_
  refine EV.callSR1 (pc := 5) (M' := M_X4_within) dX4_comb_5 lkX4_106 okS_X4_within (m_within _ _ _) (by decide) rfl rfl (Nat.le_of_ble_eq_true rfl) ?_
  refine EV.if_eq (pc := 8) (tgt := 31) dX4_comb_8 (by decide) (fun c8 => ?_) (fun c8 => ?_)
  · replace c8 := b2i_F c8
    try simp only [Int32.lt_iff_toInt_lt, Int32.le_iff_toInt_le, ← Int32.toInt_inj, Int64.lt_iff_toInt_lt, Int64.le_iff_toInt_le, ← Int64.toInt_inj, Int32.toInt_toInt64, i_l0, i_l1, i_l2, i_l5, i_l19, i_m1, j_l0, j_l1, j_l5, i_l3, i_l4, i_l6, i_l7, i_l8, i_l9, i_l12, i_l16, i_l20, i_l60, i_l64, i_l100, i_l200, i_l304, i_l2000, i_l10000, i_l100000, i_l1000000, i_n1000000, i_n19, i_n101, en] at c8
    refine EV.bipush (pc := 31) (v := -102) dX4_comb_31 (by decide) ?_
    refine EV.iret (pc := 33) dX4_comb_33 trivial ?_
    exact PC.i (by unfold f_comb; rw [if_neg (by omega)]) hw
  · replace c8 := b2i_T c8
    try simp only [Int32.lt_iff_toInt_lt, Int32.le_iff_toInt_le, ← Int32.toInt_inj, Int64.lt_iff_toInt_lt, Int64.le_iff_toInt_le, ← Int64.toInt_inj, Int32.toInt_toInt64, i_l0, i_l1, i_l2, i_l5, i_l19, i_m1, j_l0, j_l1, j_l5, i_l3, i_l4, i_l6, i_l7, i_l8, i_l9, i_l12, i_l16, i_l20, i_l60, i_l64, i_l100, i_l200, i_l304, i_l2000, i_l10000, i_l100000, i_l1000000, i_n1000000, i_n19, i_n101, en] at c8
    refine EV.iload_n (pc := 11) dX4_comb_11 rfl ?_
    refine EV.iconst (pc := 12) (v := 0) dX4_comb_12 (by decide) ?_
    refine EV.sipush (pc := 13) (v := 304) dX4_comb_13 (by decide) ?_
    refine EV.callSR1 (pc := 16) (M' := M_X4_within) dX4_comb_16 lkX4_106 okS_X4_within (m_within _ _ _) (by decide) rfl rfl (Nat.le_of_ble_eq_true rfl) ?_
    refine EV.if_eq (pc := 19) (tgt := 31) dX4_comb_19 (by decide) (fun c19 => ?_) (fun c19 => ?_)
    · replace c19 := b2i_F c19
      try simp only [Int32.lt_iff_toInt_lt, Int32.le_iff_toInt_le, ← Int32.toInt_inj, Int64.lt_iff_toInt_lt, Int64.le_iff_toInt_le, ← Int64.toInt_inj, Int32.toInt_toInt64, i_l0, i_l1, i_l2, i_l5, i_l19, i_m1, j_l0, j_l1, j_l5, i_l3, i_l4, i_l6, i_l7, i_l8, i_l9, i_l12, i_l16, i_l20, i_l60, i_l64, i_l100, i_l200, i_l304, i_l2000, i_l10000, i_l100000, i_l1000000, i_n1000000, i_n19, i_n101, en] at c19
      refine EV.bipush (pc := 31) (v := -102) dX4_comb_31 (by decide) ?_
      refine EV.iret (pc := 33) dX4_comb_33 trivial ?_
      exact PC.i (by unfold f_comb; rw [if_neg (by omega)]) hw
    · replace c19 := b2i_T c19
      try simp only [Int32.lt_iff_toInt_lt, Int32.le_iff_toInt_le, ← Int32.toInt_inj, Int64.lt_iff_toInt_lt, Int64.le_iff_toInt_le, ← Int64.toInt_inj, Int32.toInt_toInt64, i_l0, i_l1, i_l2, i_l5, i_l19, i_m1, j_l0, j_l1, j_l5, i_l3, i_l4, i_l6, i_l7, i_l8, i_l9, i_l12, i_l16, i_l20, i_l60, i_l64, i_l100, i_l200, i_l304, i_l2000, i_l10000, i_l100000, i_l1000000, i_n1000000, i_n19, i_n101, en] at c19
      refine EV.iload_n (pc := 22) dX4_comb_22 rfl ?_
      refine EV.iconst (pc := 23) (v := 0) dX4_comb_23 (by decide) ?_
      refine EV.iconst (pc := 24) (v := 3) dX4_comb_24 (by decide) ?_
      refine EV.callSR1 (pc := 25) (M' := M_X4_within) dX4_comb_25 lkX4_106 okS_X4_within (m_within _ _ _) (by decide) rfl rfl (Nat.le_of_ble_eq_true rfl) ?_
      refine EV.if_ne (pc := 28) (tgt := 34) dX4_comb_28 (by decide) (fun c28 => ?_) (fun c28 => ?_)
      · replace c28 := b2i_T c28
        try simp only [Int32.lt_iff_toInt_lt, Int32.le_iff_toInt_le, ← Int32.toInt_inj, Int64.lt_iff_toInt_lt, Int64.le_iff_toInt_le, ← Int64.toInt_inj, Int32.toInt_toInt64, i_l0, i_l1, i_l2, i_l5, i_l19, i_m1, j_l0, j_l1, j_l5, i_l3, i_l4, i_l6, i_l7, i_l8, i_l9, i_l12, i_l16, i_l20, i_l60, i_l64, i_l100, i_l200, i_l304, i_l2000, i_l10000, i_l100000, i_l1000000, i_n1000000, i_n19, i_n101, en] at c28
        refine EV.aload_n (pc := 34) dX4_comb_34 rfl ?_
        refine EV.getf (pc := 35) dX4_comb_35 fgX4_110 (by decide) hw.h0 rfl ?_
        refine EV.iconst (pc := 38) (v := 4) dX4_comb_38 (by decide) ?_
        refine EV.icmp_lt (pc := 39) (tgt := 45) dX4_comb_39 (by decide) (fun c39 => ?_) (fun c39 => ?_)
        · try simp only [Int32.lt_iff_toInt_lt, Int32.le_iff_toInt_le, ← Int32.toInt_inj, Int64.lt_iff_toInt_lt, Int64.le_iff_toInt_le, ← Int64.toInt_inj, Int32.toInt_toInt64, i_l0, i_l1, i_l2, i_l5, i_l19, i_m1, j_l0, j_l1, j_l5, i_l3, i_l4, i_l6, i_l7, i_l8, i_l9, i_l12, i_l16, i_l20, i_l60, i_l64, i_l100, i_l200, i_l304, i_l2000, i_l10000, i_l100000, i_l1000000, i_n1000000, i_n19, i_n101, en] at c39
          have h4 : s_cn s < 4 := by omega
          obtain ⟨a1, rfl, ea1, la1⟩ := i_nat (show 0 ≤ a.toInt by omega)
          obtain ⟨b1, rfl, eb1, lb1⟩ := i_nat (show 0 ≤ b.toInt by omega)
          obtain ⟨r1, rfl, er1, lr1⟩ := i_nat (show 0 ≤ r.toInt by omega)
          refine EV.aload_n (pc := 45) dX4_comb_45 rfl ?_
          refine EV.getf (pc := 46) dX4_comb_46 fgX4_21 (by decide) hw.h0 rfl ?_
          refine EV.aload_n (pc := 49) dX4_comb_49 rfl ?_
          refine EV.getf (pc := 50) dX4_comb_50 fgX4_110 (by decide) hw.h0 rfl ?_
          refine EV.aald (pc := 53) (t0 := 4) dX4_comb_53 rfl (by decide) hw.h3 (vp_in_nI h4 (by omega)) (v := .ref (ad (22 + 3 * s_cn s))) (by rw [nI_clamp (by omega)]; rfl) ?_
          refine EV.astore (pc := 54) dX4_comb_54 (by decide) (by dsimp only [lst1, lk] <;> rfl) ?_
          refine EV.aload (pc := 56) dX4_comb_56 rfl ?_
          refine EV.iload_n (pc := 58) dX4_comb_58 rfl ?_
          refine EV.putf (pc := 59) dX4_comb_59 fpX4_113 (show 22 + 3 * s_cn s < 54 by omega) (hw.kb' h4) rfl rfl (Nat.le_of_ble_eq_true rfl) ?_
          refine EV.aload (pc := 62) dX4_comb_62 rfl ?_
          refine EV.iload_n (pc := 64) dX4_comb_64 rfl ?_
          refine EV.putf (pc := 65) dX4_comb_65 fpX4_116 (show 22 + 3 * s_cn s < 54 by omega) va_up_s rfl rfl (Nat.le_of_ble_eq_true rfl) ?_
          refine EV.aload (pc := 68) dX4_comb_68 rfl ?_
          refine EV.iload_n (pc := 70) dX4_comb_70 rfl ?_
          refine EV.putf (pc := 71) dX4_comb_71 fpX4_119 (show 22 + 3 * s_cn s < 54 by omega) va_up_s rfl rfl (Nat.le_of_ble_eq_true rfl) ?_
          rw [bx_uu, bx_uu]
          refine EV.abs (Pr := CW G ad (S_cr (S_cb (S_ca s (va_up (s_ca s) (s_cn s) a1)) (va_up (s_cb s) (s_cn s) b1)) (va_up (s_cr s) (s_cn s) r1)) z hm) (hw.set_abr (s_cn s) a1 b1 r1 h4) (fun h hw => ?_)
          refine EV.aload_n (pc := 74) dX4_comb_74 rfl ?_
          refine EV.dup (pc := 75) dX4_comb_75 rfl ?_
          refine EV.getf (pc := 76) dX4_comb_76 fgX4_110 (by decide) hw.h0 rfl ?_
          refine EV.iconst (pc := 79) (v := 1) dX4_comb_79 (by decide) ?_
          refine EV.iadd (pc := 80) dX4_comb_80 ?_
          refine EV.topi (y := nI (s_cn s + 1)) (nI_p1 _) ?_
          refine EV.putf (pc := 81) dX4_comb_81 fpX4_110 (by decide) hw.h0 rfl rfl (Nat.le_of_ble_eq_true rfl) ?_
          refine EV.abs (Pr := CW G ad (S_cn (S_cr (S_cb (S_ca s (va_up (s_ca s) (s_cn s) a1)) (va_up (s_cb s) (s_cn s) b1)) (va_up (s_cr s) (s_cn s) r1)) (s_cn s + 1)) z hm) (hw.set_cn (s_cn s + 1)) (fun h hw => ?_)
          refine EV.aload_n (pc := 84) dX4_comb_84 rfl ?_
          refine EV.getf (pc := 85) dX4_comb_85 fgX4_110 (by decide) hw.h0 rfl ?_
          refine EV.iconst (pc := 88) (v := 1) dX4_comb_88 (by decide) ?_
          refine EV.isub (pc := 89) dX4_comb_89 ?_
          refine EV.topi (y := nI (s_cn s)) (by rw [nI_m1 (show 1 ≤ s_cn s + 1 by omega), Nat.add_sub_cancel]) ?_
          refine EV.iret (pc := 90) dX4_comb_90 trivial ?_
          exact PC.i (by unfold f_comb; rw [if_pos (by omega), if_pos h4, nI_tn (by omega), nI_tn (by omega), nI_tn (by omega)]) hw
        · try simp only [Int32.lt_iff_toInt_lt, Int32.le_iff_toInt_le, ← Int32.toInt_inj, Int64.lt_iff_toInt_lt, Int64.le_iff_toInt_le, ← Int64.toInt_inj, Int32.toInt_toInt64, i_l0, i_l1, i_l2, i_l5, i_l19, i_m1, j_l0, j_l1, j_l5, i_l3, i_l4, i_l6, i_l7, i_l8, i_l9, i_l12, i_l16, i_l20, i_l60, i_l64, i_l100, i_l200, i_l304, i_l2000, i_l10000, i_l100000, i_l1000000, i_n1000000, i_n19, i_n101, en] at c39
          refine EV.bipush (pc := 42) (v := -104) dX4_comb_42 (by decide) ?_
          refine EV.iret (pc := 44) dX4_comb_44 trivial ?_
          exact PC.i (by unfold f_comb; rw [if_pos (by omega), if_neg (by omega)]) hw
      · replace c28 := b2i_F c28
        try simp only [Int32.lt_iff_toInt_lt, Int32.le_iff_toInt_le, ← Int32.toInt_inj, Int64.lt_iff_toInt_lt, Int64.le_iff_toInt_le, ← Int64.toInt_inj, Int32.toInt_toInt64, i_l0, i_l1, i_l2, i_l5, i_l19, i_m1, j_l0, j_l1, j_l5, i_l3, i_l4, i_l6, i_l7, i_l8, i_l9, i_l12, i_l16, i_l20, i_l60, i_l64, i_l100, i_l200, i_l304, i_l2000, i_l10000, i_l100000, i_l1000000, i_n1000000, i_n19, i_n101, en] at c28
        refine EV.bipush (pc := 31) (v := -102) dX4_comb_31 (by decide) ?_
        refine EV.iret (pc := 33) dX4_comb_33 trivial ?_
        exact PC.i (by unfold f_comb; rw [if_neg (by omega)]) hw

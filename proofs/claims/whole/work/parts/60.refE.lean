theorem ix4 (k i : Nat) : 400 * nI k + nI i = nI (400 * k + i) := by
  rw [show (400 : Int32) = nI 400 from rfl, pk_mul, nI_add]
theorem ix2 (k i : Nat) : 20 * nI k + nI i = nI (20 * k + i) := by
  rw [show (20 : Int32) = nI 20 from rfl, pk_mul, nI_add]
theorem n_rd2 {f : Nat → Nat → Nat} {k j : Nat} (hj : j < 20) : f ((20 * k + j) / 20) ((20 * k + j) % 20) = f k j := by
  rw [show (20 * k + j) / 20 = k by omega, show (20 * k + j) % 20 = j by omega]
theorem MW.putc {G : eG} {ad : Nat → Nat} {s : St} {z : Zm} {hm h : Nat → va_E} {p : Nat} {F : Nat → Int32} (hw : MW G ad (S_ct s (va_up (s_ct s) p F)) z hm h) (k : Nat) (v : Int32) (hk : k < 400) : MW G ad (S_ct s (va_up (s_ct s) p (upd F k v))) z hm (va_up h 39 (.inl (G.2.2 0, 2400, .inl (upd (fun i => va_up (s_ct s) p F (i / 400) (i % 400)) (400 * p + k) v)))) := by
  have q := hw.set_ct p k v hk
  have e : S_ct (S_ct s (va_up (s_ct s) p F)) (va_up (s_ct (S_ct s (va_up (s_ct s) p F))) p (upd (s_ct (S_ct s (va_up (s_ct s) p F)) p) k v)) = S_ct s (va_up (s_ct s) p (upd F k v)) := by
    rw [ct_ct]
    show S_ct s (va_up (s_ct s) p (upd (va_up (s_ct s) p F p) k v)) = _
    rw [va_up_s]
  rw [e] at q
  exact q

set_option maxHeartbeats 4000000 in
set_option maxRecDepth 100000 in
theorem l_nplate {G : eG} {ad : Nat → Nat} {s : St} {z : Zm} {hm : Nat → va_E} (k : Nat) (hk : k < 6) (c2 c3 c4 : Int32) : ∀ (n i : Nat) (h : Nat → va_E), i + n = 400 → MW G ad (S_ct s (va_up (s_ct s) k (fz (s_ct s k) i))) z hm h → EV G M_X5_plate cX5_plate none ad 54 (PM G ad hm (.int c3) (S_ct s (va_up (s_ct s) k (fz (s_ct s k) 400)))) 95 [some (.ref (ad 34)), some (.int (nI k)), some (.int c2), some (.int c3), some (.int c4), some (.int (nI i))] [] h := by
  intro n
  induction n with
  | zero =>
    intro i h hi hw
    have e : i = 400 := by omega
    subst e
    refine EV.iload (pc := 95) dX5_plate_95 rfl ?_
    refine EV.sipush (pc := 97) (v := 400) dX5_plate_97 (by decide) ?_
    refine EV.icmp_ge (pc := 100) (tgt := 123) dX5_plate_100 (by decide) (fun _ => ?_) (fun q => absurd ((nI_leI (a := 400) (b := 400) (by omega) (by omega)).mpr (Nat.le_refl _)) q)
    refine EV.iload_n (pc := 123) dX5_plate_123 rfl ?_
    exact EV.iret (pc := 124) dX5_plate_124 trivial ⟨rfl, z, hw⟩
  | succ n ih =>
    intro i h hi hw
    refine EV.iload (pc := 95) dX5_plate_95 rfl ?_
    refine EV.sipush (pc := 97) (v := 400) dX5_plate_97 (by decide) ?_
    refine EV.icmp_ge (pc := 100) (tgt := 123) dX5_plate_100 (by decide) (fun q => absurd q (fun z => absurd ((nI_leI (a := 400) (b := i) (by omega) (by omega)).mp z) (by omega))) (fun _ => ?_)
    refine EV.aload_n (pc := 103) dX5_plate_103 rfl ?_
    refine EV.getf (pc := 104) dX5_plate_104 fgX5_23 (by decide) hw.h34 rfl ?_
    refine EV.sipush (pc := 107) (v := 400) dX5_plate_107 (by decide) ?_
    refine EV.iload_n (pc := 110) dX5_plate_110 rfl ?_
    refine EV.imul (pc := 111) dX5_plate_111 ?_
    refine EV.iload (pc := 112) dX5_plate_112 rfl ?_
    refine EV.iadd (pc := 114) dX5_plate_114 ?_
    refine EV.topi (y := nI (400 * k + i)) (ix4 k i) ?_
    refine EV.iconst (pc := 115) (v := 0) dX5_plate_115 (by decide) ?_
    refine EV.iast (pc := 116) dX5_plate_116 (by decide) hw.h39 (vp_in_nI (show 400 * k + i < 2400 by omega) (by omega)) ?_
    refine EV.abs (Pr := MW G ad (S_ct s (va_up (s_ct s) k (fz (s_ct s k) (i + 1)))) z hm) (by have q := hw.putc i 0 (by omega); rw [fz_s] at q; rw [nI_clamp (by omega)]; exact q) (fun h hw => ?_)
    refine EV.iinc (pc := 117) dX5_plate_117 (by decide) rfl (by first | exact nI_inc _ | rfl) (by dsimp only [lst1, lk] <;> rfl) ?_
    refine EV.goto (pc := 120) (tgt := 95) dX5_plate_120 (by decide) ?_
    exact ih (i + 1) h (by omega) hw

set_option maxHeartbeats 4000000 in
set_option maxRecDepth 100000 in
theorem q_plate {G : eG} {ad : Nat → Nat} {h : Nat → va_E} {s : St} {z : Zm} {hm : Nat → va_E} (hw : MW G ad s z hm h) (hI : Inv s) (p : Int32) (lane w t : Int32)  : MC G M_X5_plate cX5_plate ad 54 [.ref (ad 34), .int p, .int lane, .int w, .int t] h (PM G ad hm (.int (f_plate s p lane w t).1) (f_plate s p lane w t).2) := by
  by_cases hp : 0 ≤ p.toInt ∧ p.toInt ≤ 5
  · obtain ⟨k, rfl, ek, lk⟩ := i_nat hp.1
    have hk : k < 6 := by omega
    have e0 : f_plate s (nI k) lane w t = g_plate s k lane w t := by unfold f_plate; rw [if_pos hp, nI_tn (by omega)]
    rw [e0]
    have hd := hI.1 k hk
    refine MC.of (by decide +kernel) (Nat.le_of_ble_eq_true rfl) (by dsimp only [linit, Nat.reduceSub, List.reduceReplicate] <;> rfl) ?_
    refine EV.iload_n (pc := 0) dX5_plate_0 rfl ?_
    refine EV.callSR1 (pc := 1) (M' := M_X5_isPlate) dX5_plate_1 lkX5_82 okS_X5_isPlate (n_isPlate _) (by decide) rfl rfl (Nat.le_of_ble_eq_true rfl) ?_
    refine EV.if_ne (pc := 4) (tgt := 10) dX5_plate_4 (by decide) (fun _ => ?_) (fun q => absurd q (fun q => b2i_F q hp))
    refine EV.iload_n (pc := 10) dX5_plate_10 rfl ?_
    refine EV.i2l (pc := 11) dX5_plate_11 ?_
    refine EV.lconst (pc := 12) (v := 0) dX5_plate_12 (by decide) ?_
    refine EV.ldc2 (pc := 13) dX5_plate_13 kcX5_86 ?_
    refine EV.callSR1 (pc := 16) (M' := M_X5_in) dX5_plate_16 lkX5_75 okS_X5_in (n_in _ _ _) (by decide) rfl rfl (Nat.le_of_ble_eq_true rfl) ?_
    refine EV.if_eq (pc := 19) (tgt := 44) dX5_plate_19 (by decide) (fun c19 => ?_) (fun c19 => ?_)
    · replace c19 := b2i_F c19
      try simp only [Int32.lt_iff_toInt_lt, Int32.le_iff_toInt_le, ← Int32.toInt_inj, Int64.lt_iff_toInt_lt, Int64.le_iff_toInt_le, ← Int64.toInt_inj, Int32.toInt_toInt64, i_l0, i_l1, i_l2, i_l5, i_l19, i_m1, j_l0, j_l1, j_l5, i_l3, i_l4, i_l6, i_l7, i_l8, i_l9, i_l12, i_l16, i_l20, i_l60, i_l64, i_l100, i_l200, i_l304, i_l2000, i_l10000, i_l100000, i_l1000000, i_n1000000, i_n19, i_n101, j_l2, j_l3, j_l19, j_l304, j_l2000, j_l10000, j_l100000, j_l1000000, j_l60, j_l100, j_n1000000, j_n19] at c19
      refine EV.bipush (pc := 44) (v := -102) dX5_plate_44 (by decide) ?_
      refine EV.iret (pc := 46) dX5_plate_46 trivial ?_
      exact PM.i (by unfold g_plate; rw [if_neg (by omega)]) hw
    · replace c19 := b2i_T c19
      try simp only [Int32.lt_iff_toInt_lt, Int32.le_iff_toInt_le, ← Int32.toInt_inj, Int64.lt_iff_toInt_lt, Int64.le_iff_toInt_le, ← Int64.toInt_inj, Int32.toInt_toInt64, i_l0, i_l1, i_l2, i_l5, i_l19, i_m1, j_l0, j_l1, j_l5, i_l3, i_l4, i_l6, i_l7, i_l8, i_l9, i_l12, i_l16, i_l20, i_l60, i_l64, i_l100, i_l200, i_l304, i_l2000, i_l10000, i_l100000, i_l1000000, i_n1000000, i_n19, i_n101, j_l2, j_l3, j_l19, j_l304, j_l2000, j_l10000, j_l100000, j_l1000000, j_l60, j_l100, j_n1000000, j_n19] at c19
      refine EV.iload_n (pc := 22) dX5_plate_22 rfl ?_
      refine EV.if_eq (pc := 23) (tgt := 44) dX5_plate_23 (by decide) (fun c23 => ?_) (fun c23 => ?_)
      · try simp only [Int32.lt_iff_toInt_lt, Int32.le_iff_toInt_le, ← Int32.toInt_inj, Int64.lt_iff_toInt_lt, Int64.le_iff_toInt_le, ← Int64.toInt_inj, Int32.toInt_toInt64, i_l0, i_l1, i_l2, i_l5, i_l19, i_m1, j_l0, j_l1, j_l5, i_l3, i_l4, i_l6, i_l7, i_l8, i_l9, i_l12, i_l16, i_l20, i_l60, i_l64, i_l100, i_l200, i_l304, i_l2000, i_l10000, i_l100000, i_l1000000, i_n1000000, i_n19, i_n101, j_l2, j_l3, j_l19, j_l304, j_l2000, j_l10000, j_l100000, j_l1000000, j_l60, j_l100, j_n1000000, j_n19] at c23
        refine EV.bipush (pc := 44) (v := -102) dX5_plate_44 (by decide) ?_
        refine EV.iret (pc := 46) dX5_plate_46 trivial ?_
        exact PM.i (by unfold g_plate; rw [if_neg (by omega)]) hw
      · try simp only [Int32.lt_iff_toInt_lt, Int32.le_iff_toInt_le, ← Int32.toInt_inj, Int64.lt_iff_toInt_lt, Int64.le_iff_toInt_le, ← Int64.toInt_inj, Int32.toInt_toInt64, i_l0, i_l1, i_l2, i_l5, i_l19, i_m1, j_l0, j_l1, j_l5, i_l3, i_l4, i_l6, i_l7, i_l8, i_l9, i_l12, i_l16, i_l20, i_l60, i_l64, i_l100, i_l200, i_l304, i_l2000, i_l10000, i_l100000, i_l1000000, i_n1000000, i_n19, i_n101, j_l2, j_l3, j_l19, j_l304, j_l2000, j_l10000, j_l100000, j_l1000000, j_l60, j_l100, j_n1000000, j_n19] at c23
        refine EV.iload_n (pc := 26) dX5_plate_26 rfl ?_
        refine EV.bipush (pc := 27) (v := 20) dX5_plate_27 (by decide) ?_
        refine EV.icmp_gt (pc := 29) (tgt := 44) dX5_plate_29 (by decide) (fun c29 => ?_) (fun c29 => ?_)
        · try simp only [Int32.lt_iff_toInt_lt, Int32.le_iff_toInt_le, ← Int32.toInt_inj, Int64.lt_iff_toInt_lt, Int64.le_iff_toInt_le, ← Int64.toInt_inj, Int32.toInt_toInt64, i_l0, i_l1, i_l2, i_l5, i_l19, i_m1, j_l0, j_l1, j_l5, i_l3, i_l4, i_l6, i_l7, i_l8, i_l9, i_l12, i_l16, i_l20, i_l60, i_l64, i_l100, i_l200, i_l304, i_l2000, i_l10000, i_l100000, i_l1000000, i_n1000000, i_n19, i_n101, j_l2, j_l3, j_l19, j_l304, j_l2000, j_l10000, j_l100000, j_l1000000, j_l60, j_l100, j_n1000000, j_n19] at c29
          refine EV.bipush (pc := 44) (v := -102) dX5_plate_44 (by decide) ?_
          refine EV.iret (pc := 46) dX5_plate_46 trivial ?_
          exact PM.i (by unfold g_plate; rw [if_neg (by omega)]) hw
        · try simp only [Int32.lt_iff_toInt_lt, Int32.le_iff_toInt_le, ← Int32.toInt_inj, Int64.lt_iff_toInt_lt, Int64.le_iff_toInt_le, ← Int64.toInt_inj, Int32.toInt_toInt64, i_l0, i_l1, i_l2, i_l5, i_l19, i_m1, j_l0, j_l1, j_l5, i_l3, i_l4, i_l6, i_l7, i_l8, i_l9, i_l12, i_l16, i_l20, i_l60, i_l64, i_l100, i_l200, i_l304, i_l2000, i_l10000, i_l100000, i_l1000000, i_n1000000, i_n19, i_n101, j_l2, j_l3, j_l19, j_l304, j_l2000, j_l10000, j_l100000, j_l1000000, j_l60, j_l100, j_n1000000, j_n19] at c29
          refine EV.iload (pc := 32) dX5_plate_32 rfl ?_
          refine EV.if_eq (pc := 34) (tgt := 44) dX5_plate_34 (by decide) (fun c34 => ?_) (fun c34 => ?_)
          · try simp only [Int32.lt_iff_toInt_lt, Int32.le_iff_toInt_le, ← Int32.toInt_inj, Int64.lt_iff_toInt_lt, Int64.le_iff_toInt_le, ← Int64.toInt_inj, Int32.toInt_toInt64, i_l0, i_l1, i_l2, i_l5, i_l19, i_m1, j_l0, j_l1, j_l5, i_l3, i_l4, i_l6, i_l7, i_l8, i_l9, i_l12, i_l16, i_l20, i_l60, i_l64, i_l100, i_l200, i_l304, i_l2000, i_l10000, i_l100000, i_l1000000, i_n1000000, i_n19, i_n101, j_l2, j_l3, j_l19, j_l304, j_l2000, j_l10000, j_l100000, j_l1000000, j_l60, j_l100, j_n1000000, j_n19] at c34
            refine EV.bipush (pc := 44) (v := -102) dX5_plate_44 (by decide) ?_
            refine EV.iret (pc := 46) dX5_plate_46 trivial ?_
            exact PM.i (by unfold g_plate; rw [if_neg (by omega)]) hw
          · try simp only [Int32.lt_iff_toInt_lt, Int32.le_iff_toInt_le, ← Int32.toInt_inj, Int64.lt_iff_toInt_lt, Int64.le_iff_toInt_le, ← Int64.toInt_inj, Int32.toInt_toInt64, i_l0, i_l1, i_l2, i_l5, i_l19, i_m1, j_l0, j_l1, j_l5, i_l3, i_l4, i_l6, i_l7, i_l8, i_l9, i_l12, i_l16, i_l20, i_l60, i_l64, i_l100, i_l200, i_l304, i_l2000, i_l10000, i_l100000, i_l1000000, i_n1000000, i_n19, i_n101, j_l2, j_l3, j_l19, j_l304, j_l2000, j_l10000, j_l100000, j_l1000000, j_l60, j_l100, j_n1000000, j_n19] at c34
            refine EV.iload (pc := 37) dX5_plate_37 rfl ?_
            refine EV.bipush (pc := 39) (v := 20) dX5_plate_39 (by decide) ?_
            refine EV.icmp_le (pc := 41) (tgt := 47) dX5_plate_41 (by decide) (fun c41 => ?_) (fun c41 => ?_)
            · try simp only [Int32.lt_iff_toInt_lt, Int32.le_iff_toInt_le, ← Int32.toInt_inj, Int64.lt_iff_toInt_lt, Int64.le_iff_toInt_le, ← Int64.toInt_inj, Int32.toInt_toInt64, i_l0, i_l1, i_l2, i_l5, i_l19, i_m1, j_l0, j_l1, j_l5, i_l3, i_l4, i_l6, i_l7, i_l8, i_l9, i_l12, i_l16, i_l20, i_l60, i_l64, i_l100, i_l200, i_l304, i_l2000, i_l10000, i_l100000, i_l1000000, i_n1000000, i_n19, i_n101, j_l2, j_l3, j_l19, j_l304, j_l2000, j_l10000, j_l100000, j_l1000000, j_l60, j_l100, j_n1000000, j_n19] at c41
              refine EV.iload_n (pc := 47) dX5_plate_47 rfl ?_
              refine EV.if_lt (pc := 48) (tgt := 56) dX5_plate_48 (by decide) (fun c48 => ?_) (fun c48 => ?_)
              · try simp only [Int32.lt_iff_toInt_lt, Int32.le_iff_toInt_le, ← Int32.toInt_inj, Int64.lt_iff_toInt_lt, Int64.le_iff_toInt_le, ← Int64.toInt_inj, Int32.toInt_toInt64, i_l0, i_l1, i_l2, i_l5, i_l19, i_m1, j_l0, j_l1, j_l5, i_l3, i_l4, i_l6, i_l7, i_l8, i_l9, i_l12, i_l16, i_l20, i_l60, i_l64, i_l100, i_l200, i_l304, i_l2000, i_l10000, i_l100000, i_l1000000, i_n1000000, i_n19, i_n101, j_l2, j_l3, j_l19, j_l304, j_l2000, j_l10000, j_l100000, j_l1000000, j_l60, j_l100, j_n1000000, j_n19] at c48
                refine EV.aload_n (pc := 56) dX5_plate_56 rfl ?_
                refine EV.bipush (pc := 57) (v := -13) dX5_plate_57 (by decide) ?_
                refine EV.callVPi (pc := 59) (M' := M_X5_met) dX5_plate_59 lkX5_88 okV_X5_met (n_met 3 _ hw (by omega) (by decide +kernel)) (by decide) rfl rfl (Nat.le_of_ble_eq_true rfl) (by decide) hw.h34 (fun h hw => ?_)
                refine EV.iret (pc := 62) dX5_plate_62 trivial ?_
                exact PM.i (by unfold g_plate; rw [if_pos (by omega), if_pos (by omega)]) hw
              · try simp only [Int32.lt_iff_toInt_lt, Int32.le_iff_toInt_le, ← Int32.toInt_inj, Int64.lt_iff_toInt_lt, Int64.le_iff_toInt_le, ← Int64.toInt_inj, Int32.toInt_toInt64, i_l0, i_l1, i_l2, i_l5, i_l19, i_m1, j_l0, j_l1, j_l5, i_l3, i_l4, i_l6, i_l7, i_l8, i_l9, i_l12, i_l16, i_l20, i_l60, i_l64, i_l100, i_l200, i_l304, i_l2000, i_l10000, i_l100000, i_l1000000, i_n1000000, i_n19, i_n101, j_l2, j_l3, j_l19, j_l304, j_l2000, j_l10000, j_l100000, j_l1000000, j_l60, j_l100, j_n1000000, j_n19] at c48
                refine EV.iload (pc := 51) dX5_plate_51 rfl ?_
                refine EV.if_ge (pc := 53) (tgt := 63) dX5_plate_53 (by decide) (fun c53 => ?_) (fun c53 => ?_)
                · try simp only [Int32.lt_iff_toInt_lt, Int32.le_iff_toInt_le, ← Int32.toInt_inj, Int64.lt_iff_toInt_lt, Int64.le_iff_toInt_le, ← Int64.toInt_inj, Int32.toInt_toInt64, i_l0, i_l1, i_l2, i_l5, i_l19, i_m1, j_l0, j_l1, j_l5, i_l3, i_l4, i_l6, i_l7, i_l8, i_l9, i_l12, i_l16, i_l20, i_l60, i_l64, i_l100, i_l200, i_l304, i_l2000, i_l10000, i_l100000, i_l1000000, i_n1000000, i_n19, i_n101, j_l2, j_l3, j_l19, j_l304, j_l2000, j_l10000, j_l100000, j_l1000000, j_l60, j_l100, j_n1000000, j_n19] at c53
                  obtain ⟨l1, rfl, el1, ll1⟩ := i_nat (show 0 ≤ lane.toInt by omega)
                  obtain ⟨w1, rfl, ew1, lw1⟩ := i_nat (show 0 ≤ w.toInt by omega)
                  obtain ⟨t1, rfl, et1, lt1⟩ := i_nat (show 0 ≤ t.toInt by omega)
                  refine EV.aload_n (pc := 63) dX5_plate_63 rfl ?_
                  refine EV.getf (pc := 64) dX5_plate_64 fgX5_7 (by decide) hw.h34 rfl ?_
                  refine EV.iload_n (pc := 67) dX5_plate_67 rfl ?_
                  refine EV.iconst (pc := 68) (v := 1) dX5_plate_68 (by decide) ?_
                  refine EV.zast (pc := 69) dX5_plate_69 (by decide) hw.h35 (vp_in_nI (show k < 6 by omega) (by omega)) ?_
                  refine EV.abs (Pr := MW G ad (S_lost s (va_up (s_lost s) k false)) z hm) (by have q := hw.set_lost k false; rw [nI_clamp (by omega)]; exact q) (fun h hw => ?_)
                  refine EV.aload_n (pc := 70) dX5_plate_70 rfl ?_
                  refine EV.getf (pc := 71) dX5_plate_71 fgX5_13 (by decide) hw.h34 rfl ?_
                  refine EV.iload_n (pc := 74) dX5_plate_74 rfl ?_
                  refine EV.iload_n (pc := 75) dX5_plate_75 rfl ?_
                  refine EV.iast (pc := 76) dX5_plate_76 (by decide) hw.h36 (vp_in_nI (show k < 6 by omega) (by omega)) ?_
                  refine EV.abs (Pr := MW G ad (S_lane (S_lost s (va_up (s_lost s) k false)) (va_up (s_lane s) k l1)) z hm) (by have q := hw.set_lane k l1; rw [nI_clamp (by omega)]; exact q) (fun h hw => ?_)
                  refine EV.aload_n (pc := 77) dX5_plate_77 rfl ?_
                  refine EV.getf (pc := 78) dX5_plate_78 fgX5_17 (by decide) hw.h34 rfl ?_
                  refine EV.iload_n (pc := 81) dX5_plate_81 rfl ?_
                  refine EV.iload_n (pc := 82) dX5_plate_82 rfl ?_
                  refine EV.iast (pc := 83) dX5_plate_83 (by decide) hw.h37 (vp_in_nI (show k < 6 by omega) (by omega)) ?_
                  refine EV.abs (Pr := MW G ad (S_w (S_lane (S_lost s (va_up (s_lost s) k false)) (va_up (s_lane s) k l1)) (va_up (s_w s) k w1)) z hm) (by have q := hw.set_w k w1; rw [nI_clamp (by omega)]; exact q) (fun h hw => ?_)
                  refine EV.aload_n (pc := 84) dX5_plate_84 rfl ?_
                  refine EV.getf (pc := 85) dX5_plate_85 fgX5_20 (by decide) hw.h34 rfl ?_
                  refine EV.iload_n (pc := 88) dX5_plate_88 rfl ?_
                  refine EV.iload (pc := 89) dX5_plate_89 rfl ?_
                  refine EV.iast (pc := 91) dX5_plate_91 (by decide) hw.h38 (vp_in_nI (show k < 6 by omega) (by omega)) ?_
                  refine EV.abs (Pr := MW G ad (S_h (S_w (S_lane (S_lost s (va_up (s_lost s) k false)) (va_up (s_lane s) k l1)) (va_up (s_w s) k w1)) (va_up (s_h s) k t1)) z hm) (by have q := hw.set_h k t1; rw [nI_clamp (by omega)]; exact q) (fun h hw => ?_)
                  refine EV.iconst (pc := 92) (v := 0) dX5_plate_92 (by decide) ?_
                  refine EV.istore (pc := 93) dX5_plate_93 (by decide) (by dsimp only [lst1, lk] <;> rfl) ?_
                  have e6 : g_plate s k (nI l1) (nI w1) (nI t1) = (nI w1, S_ct (S_h (S_w (S_lane (S_lost s (va_up (s_lost s) k false)) (va_up (s_lane s) k l1)) (va_up (s_w s) k w1)) (va_up (s_h s) k t1)) (va_up (s_ct s) k (fz (s_ct s k) 400))) := by unfold g_plate; rw [if_pos (by omega), if_neg (by omega), nI_tn (by omega), nI_tn (by omega), nI_tn (by omega)]
                  rw [e6]
                  refine l_nplate (s := (S_h (S_w (S_lane (S_lost s (va_up (s_lost s) k false)) (va_up (s_lane s) k l1)) (va_up (s_w s) k w1)) (va_up (s_h s) k t1))) (z := z) k hk (nI l1) (nI w1) (nI t1) 400 0 h rfl ?_
                  have e7 : fz (s_ct s k) 0 = s_ct s k := by funext j; simp [fz]
                  show MW G ad (S_ct (S_h (S_w (S_lane (S_lost s (va_up (s_lost s) k false)) (va_up (s_lane s) k l1)) (va_up (s_w s) k w1)) (va_up (s_h s) k t1)) (va_up (s_ct s) k (fz (s_ct s k) 0))) z hm h
                  rw [e7, va_up_id]
                  exact hw
                · try simp only [Int32.lt_iff_toInt_lt, Int32.le_iff_toInt_le, ← Int32.toInt_inj, Int64.lt_iff_toInt_lt, Int64.le_iff_toInt_le, ← Int64.toInt_inj, Int32.toInt_toInt64, i_l0, i_l1, i_l2, i_l5, i_l19, i_m1, j_l0, j_l1, j_l5, i_l3, i_l4, i_l6, i_l7, i_l8, i_l9, i_l12, i_l16, i_l20, i_l60, i_l64, i_l100, i_l200, i_l304, i_l2000, i_l10000, i_l100000, i_l1000000, i_n1000000, i_n19, i_n101, j_l2, j_l3, j_l19, j_l304, j_l2000, j_l10000, j_l100000, j_l1000000, j_l60, j_l100, j_n1000000, j_n19] at c53
                  refine EV.aload_n (pc := 56) dX5_plate_56 rfl ?_
                  refine EV.bipush (pc := 57) (v := -13) dX5_plate_57 (by decide) ?_
                  refine EV.callVPi (pc := 59) (M' := M_X5_met) dX5_plate_59 lkX5_88 okV_X5_met (n_met 3 _ hw (by omega) (by decide +kernel)) (by decide) rfl rfl (Nat.le_of_ble_eq_true rfl) (by decide) hw.h34 (fun h hw => ?_)
                  refine EV.iret (pc := 62) dX5_plate_62 trivial ?_
                  exact PM.i (by unfold g_plate; rw [if_pos (by omega), if_pos (by omega)]) hw
            · try simp only [Int32.lt_iff_toInt_lt, Int32.le_iff_toInt_le, ← Int32.toInt_inj, Int64.lt_iff_toInt_lt, Int64.le_iff_toInt_le, ← Int64.toInt_inj, Int32.toInt_toInt64, i_l0, i_l1, i_l2, i_l5, i_l19, i_m1, j_l0, j_l1, j_l5, i_l3, i_l4, i_l6, i_l7, i_l8, i_l9, i_l12, i_l16, i_l20, i_l60, i_l64, i_l100, i_l200, i_l304, i_l2000, i_l10000, i_l100000, i_l1000000, i_n1000000, i_n19, i_n101, j_l2, j_l3, j_l19, j_l304, j_l2000, j_l10000, j_l100000, j_l1000000, j_l60, j_l100, j_n1000000, j_n19] at c41
              refine EV.bipush (pc := 44) (v := -102) dX5_plate_44 (by decide) ?_
              refine EV.iret (pc := 46) dX5_plate_46 trivial ?_
              exact PM.i (by unfold g_plate; rw [if_neg (by omega)]) hw
  · have e0 : f_plate s p lane w t = (-101, s) := by unfold f_plate; rw [if_neg hp]
    rw [e0]
    refine MC.of (by decide +kernel) (Nat.le_of_ble_eq_true rfl) (by dsimp only [linit, Nat.reduceSub, List.reduceReplicate] <;> rfl) ?_
    refine EV.iload_n (pc := 0) dX5_plate_0 rfl ?_
    refine EV.callSR1 (pc := 1) (M' := M_X5_isPlate) dX5_plate_1 lkX5_82 okS_X5_isPlate (n_isPlate _) (by decide) rfl rfl (Nat.le_of_ble_eq_true rfl) ?_
    refine EV.if_ne (pc := 4) (tgt := 10) dX5_plate_4 (by decide) (fun q => absurd (b2i_0 hp).symm q) (fun _ => ?_)
    refine EV.bipush (pc := 7) (v := -101) dX5_plate_7 (by decide) ?_
    exact EV.iret (pc := 9) dX5_plate_9 trivial ⟨rfl, z, hw⟩

def cpI (nv ft : Nat → Int32) (i : Nat) : Nat → Int32 := fun k => if k < i then nv k else ft k
theorem cpI_s (nv ft : Nat → Int32) (i : Nat) : upd (cpI nv ft i) i (nv i) = cpI nv ft (i + 1) := by
  funext k
  simp only [upd, cpI]
  by_cases e : k = i
  · subst e; rw [if_pos rfl, if_pos (by omega)]
  · rw [if_neg e]
    by_cases e2 : k < i
    · rw [if_pos e2, if_pos (by omega)]
    · rw [if_neg e2, if_neg (by omega)]
theorem cpI_0 (nv ft : Nat → Int32) : cpI nv ft 0 = ft := by funext k; simp [cpI]
theorem cpI_rd {s : St} {a t i : Nat} {nv : Nat → Int32} : va_up (s_ct s) t (cpI nv (s_ct s t) i) a i = s_ct s a i := by
  by_cases e : a = t
  · subst e; rw [va_up_s]; simp [cpI]
  · rw [va_up_n e]

set_option maxHeartbeats 4000000 in
set_option maxRecDepth 100000 in
theorem l_ncopy {G : eG} {ad : Nat → Nat} {s : St} {z : Zm} {hm : Nat → va_E} (a t : Nat) (ha : a < 6) (ht : t < 6) : ∀ (n i : Nat) (h : Nat → va_E), i + n = 400 → MW G ad (S_ct s (va_up (s_ct s) t (cpI (s_ct s a) (s_ct s t) i))) z hm h → EV G M_X5_copy cX5_copy none ad 54 (PM G ad hm (.int 1) (S_ct s (va_up (s_ct s) t (cpI (s_ct s a) (s_ct s t) 400)))) 82 [some (.ref (ad 34)), some (.int (nI a)), some (.int (nI t)), some (.int (nI i))] [] h := by
  intro n
  induction n with
  | zero =>
    intro i h hi hw
    have e : i = 400 := by omega
    subst e
    refine EV.iload_n (pc := 82) dX5_copy_82 rfl ?_
    refine EV.sipush (pc := 83) (v := 400) dX5_copy_83 (by decide) ?_
    refine EV.icmp_ge (pc := 86) (tgt := 119) dX5_copy_86 (by decide) (fun _ => ?_) (fun q => absurd ((nI_leI (a := 400) (b := 400) (by omega) (by omega)).mpr (Nat.le_refl _)) q)
    refine EV.iconst (pc := 119) (v := 1) dX5_copy_119 (by decide) ?_
    exact EV.iret (pc := 120) dX5_copy_120 trivial ⟨rfl, z, hw⟩
  | succ n ih =>
    intro i h hi hw
    refine EV.iload_n (pc := 82) dX5_copy_82 rfl ?_
    refine EV.sipush (pc := 83) (v := 400) dX5_copy_83 (by decide) ?_
    refine EV.icmp_ge (pc := 86) (tgt := 119) dX5_copy_86 (by decide) (fun q => absurd q (fun z => absurd ((nI_leI (a := 400) (b := i) (by omega) (by omega)).mp z) (by omega))) (fun _ => ?_)
    refine EV.aload_n (pc := 89) dX5_copy_89 rfl ?_
    refine EV.getf (pc := 90) dX5_copy_90 fgX5_23 (by decide) hw.h34 rfl ?_
    refine EV.sipush (pc := 93) (v := 400) dX5_copy_93 (by decide) ?_
    refine EV.iload_n (pc := 96) dX5_copy_96 rfl ?_
    refine EV.imul (pc := 97) dX5_copy_97 ?_
    refine EV.iload_n (pc := 98) dX5_copy_98 rfl ?_
    refine EV.iadd (pc := 99) dX5_copy_99 ?_
    refine EV.topi (y := nI (400 * t + i)) (ix4 t i) ?_
    refine EV.aload_n (pc := 100) dX5_copy_100 rfl ?_
    refine EV.getf (pc := 101) dX5_copy_101 fgX5_23 (by decide) hw.h34 rfl ?_
    refine EV.sipush (pc := 104) (v := 400) dX5_copy_104 (by decide) ?_
    refine EV.iload_n (pc := 107) dX5_copy_107 rfl ?_
    refine EV.imul (pc := 108) dX5_copy_108 ?_
    refine EV.iload_n (pc := 109) dX5_copy_109 rfl ?_
    refine EV.iadd (pc := 110) dX5_copy_110 ?_
    refine EV.topi (y := nI (400 * a + i)) (ix4 a i) ?_
    refine EV.iald (pc := 111) dX5_copy_111 (by decide) hw.h39 (vp_in_nI (show 400 * a + i < 2400 by omega) (by omega)) ?_
    refine EV.topi (y := s_ct s a i) (by rw [nI_clamp (by omega)]; show va_up (s_ct s) t (cpI _ (s_ct s t) i) ((400 * a + i) / 400) ((400 * a + i) % 400) = _; rw [show (400 * a + i) / 400 = a by omega, show (400 * a + i) % 400 = i by omega]; exact cpI_rd) ?_
    refine EV.iast (pc := 112) dX5_copy_112 (by decide) hw.h39 (vp_in_nI (show 400 * t + i < 2400 by omega) (by omega)) ?_
    refine EV.abs (Pr := MW G ad (S_ct s (va_up (s_ct s) t (cpI (s_ct s a) (s_ct s t) (i + 1)))) z hm) (by have q := hw.putc i ((s_ct s a) i) (by omega); rw [cpI_s] at q; rw [nI_clamp (by omega)]; exact q) (fun h hw => ?_)
    refine EV.iinc (pc := 113) dX5_copy_113 (by decide) rfl (by first | exact nI_inc _ | rfl) (by dsimp only [lst1, lk] <;> rfl) ?_
    refine EV.goto (pc := 116) (tgt := 82) dX5_copy_116 (by decide) ?_
    exact ih (i + 1) h (by omega) hw

set_option maxHeartbeats 4000000 in
set_option maxRecDepth 100000 in
theorem q_copy {G : eG} {ad : Nat → Nat} {h : Nat → va_E} {s : St} {z : Zm} {hm : Nat → va_E} (hw : MW G ad s z hm h) (hI : Inv s) (p q : Int32)  : MC G M_X5_copy cX5_copy ad 54 [.ref (ad 34), .int p, .int q] h (PM G ad hm (.int (f_copy s p q).1) (f_copy s p q).2) := by
  by_cases hpa : 0 ≤ p.toInt ∧ p.toInt ≤ 5
  · obtain ⟨a, rfl, ea, la⟩ := i_nat hpa.1
    have ha : a < 6 := by omega
    have hda := hI.1 a ha
    by_cases hpt : 0 ≤ q.toInt ∧ q.toInt ≤ 5
    · obtain ⟨t, rfl, et, lt⟩ := i_nat hpt.1
      have ht : t < 6 := by omega
      have hdt := hI.1 t ht
      have e0 : f_copy s (nI a) (nI t) = g_copy s a t := by unfold f_copy; rw [if_pos ⟨hpa, hpt⟩, nI_tn (by omega), nI_tn (by omega)]
      rw [e0]
      have en1 := nI_t (show s_lane s a < 2147483648 by omega)
      have en2 := nI_t (show s_lane s t < 2147483648 by omega)
      refine MC.of (by decide +kernel) (Nat.le_of_ble_eq_true rfl) (by dsimp only [linit, Nat.reduceSub, List.reduceReplicate] <;> rfl) ?_
      refine EV.iload_n (pc := 0) dX5_copy_0 rfl ?_
      refine EV.callSR1 (pc := 1) (M' := M_X5_isPlate) dX5_copy_1 lkX5_82 okS_X5_isPlate (n_isPlate _) (by decide) rfl rfl (Nat.le_of_ble_eq_true rfl) ?_
      refine EV.if_eq (pc := 4) (tgt := 14) dX5_copy_4 (by decide) (fun q => absurd q (fun q => b2i_F q hpa)) (fun _ => ?_)
      refine EV.iload_n (pc := 7) dX5_copy_7 rfl ?_
      refine EV.callSR1 (pc := 8) (M' := M_X5_isPlate) dX5_copy_8 lkX5_82 okS_X5_isPlate (n_isPlate _) (by decide) rfl rfl (Nat.le_of_ble_eq_true rfl) ?_
      refine EV.if_ne (pc := 11) (tgt := 17) dX5_copy_11 (by decide) (fun _ => ?_) (fun q => absurd q (fun q => b2i_F q hpt))
      refine EV.aload_n (pc := 17) dX5_copy_17 rfl ?_
      refine EV.getf (pc := 18) dX5_copy_18 fgX5_7 (by decide) hw.h34 rfl ?_
      refine EV.iload_n (pc := 21) dX5_copy_21 rfl ?_
      refine EV.zald (pc := 22) dX5_copy_22 (by decide) hw.h35 (vp_in_nI (show a < 6 by omega) (by omega)) ?_
      refine EV.topi (y := b2i (!(s_lost s a))) (by rw [nI_clamp (by omega)]) ?_
      refine EV.if_eq (pc := 23) (tgt := 35) dX5_copy_23 (by decide) (fun c23 => ?_) (fun c23 => ?_)
      · refine EV.aload_n (pc := 35) dX5_copy_35 rfl ?_
        refine EV.bipush (pc := 36) (v := -11) dX5_copy_36 (by decide) ?_
        refine EV.callVPi (pc := 38) (M' := M_X5_met) dX5_copy_38 lkX5_88 okV_X5_met (n_met 1 _ hw (by omega) (by decide +kernel)) (by decide) rfl rfl (Nat.le_of_ble_eq_true rfl) (by decide) hw.h34 (fun h hw => ?_)
        refine EV.iret (pc := 41) dX5_copy_41 trivial ?_
        exact PM.i (by unfold g_copy; rw [if_pos (by first | exact Or.inl (nb_T c23) | exact Or.inr (nb_T c32))]) hw
      · refine EV.aload_n (pc := 26) dX5_copy_26 rfl ?_
        refine EV.getf (pc := 27) dX5_copy_27 fgX5_7 (by decide) hw.h34 rfl ?_
        refine EV.iload_n (pc := 30) dX5_copy_30 rfl ?_
        refine EV.zald (pc := 31) dX5_copy_31 (by decide) hw.h35 (vp_in_nI (show t < 6 by omega) (by omega)) ?_
        refine EV.topi (y := b2i (!(s_lost s t))) (by rw [nI_clamp (by omega)]) ?_
        refine EV.if_ne (pc := 32) (tgt := 42) dX5_copy_32 (by decide) (fun c32 => ?_) (fun c32 => ?_)
        · refine EV.aload_n (pc := 42) dX5_copy_42 rfl ?_
          refine EV.getf (pc := 43) dX5_copy_43 fgX5_13 (by decide) hw.h34 rfl ?_
          refine EV.iload_n (pc := 46) dX5_copy_46 rfl ?_
          refine EV.iald (pc := 47) dX5_copy_47 (by decide) hw.h36 (vp_in_nI (show a < 6 by omega) (by omega)) ?_
          refine EV.topi (y := nI (s_lane s a)) (by rw [nI_clamp (by omega)]) ?_
          refine EV.aload_n (pc := 48) dX5_copy_48 rfl ?_
          refine EV.getf (pc := 49) dX5_copy_49 fgX5_13 (by decide) hw.h34 rfl ?_
          refine EV.iload_n (pc := 52) dX5_copy_52 rfl ?_
          refine EV.iald (pc := 53) dX5_copy_53 (by decide) hw.h36 (vp_in_nI (show t < 6 by omega) (by omega)) ?_
          refine EV.topi (y := nI (s_lane s t)) (by rw [nI_clamp (by omega)]) ?_
          refine EV.icmp_eq (pc := 54) (tgt := 64) dX5_copy_54 (by decide) (fun c54 => ?_) (fun c54 => ?_)
          · refine EV.aload_n (pc := 64) dX5_copy_64 rfl ?_
            refine EV.iload_n (pc := 65) dX5_copy_65 rfl ?_
            refine EV.iload_n (pc := 66) dX5_copy_66 rfl ?_
            refine EV.callVR1 (pc := 67) (M' := M_X5_isLike) dX5_copy_67 lkX5_104 okV_X5_isLike (n_isLike a t hw ha ht ⟨hda.1, hda.2.1⟩ ⟨hdt.1, hdt.2.1⟩) (by decide) rfl rfl (Nat.le_of_ble_eq_true rfl) (by decide) hw.h34 ?_
            refine EV.if_ne (pc := 70) (tgt := 80) dX5_copy_70 (by decide) (fun c70 => ?_) (fun c70 => ?_)
            · replace c70 := b2i_T c70
              refine EV.iconst (pc := 80) (v := 0) dX5_copy_80 (by decide) ?_
              refine EV.istore_n (pc := 81) 3 dX5_copy_81 rfl (by decide) (by dsimp only [lst1, lk] <;> rfl) ?_
              have e6 : g_copy s a t = (1, (S_ct s (va_up (s_ct s) t (cpI (s_ct s a) (s_ct s t) 400)))) := by unfold g_copy; rw [if_neg (by rw [nb_F c23, nb_F c32]; simp), if_pos (by rw [nI_iI, nI_iI, iI_eq (by omega) (by omega) (by omega) (by omega)] at c54; omega), if_pos c70]; rfl
              rw [e6]
              exact l_ncopy a t ha ht 400 0 h rfl (by rw [cpI_0, ct_id]; exact hw)
            · replace c70 := b2i_F c70
              refine EV.aload_n (pc := 73) dX5_copy_73 rfl ?_
              refine EV.bipush (pc := 74) (v := -15) dX5_copy_74 (by decide) ?_
              refine EV.callVPi (pc := 76) (M' := M_X5_met) dX5_copy_76 lkX5_88 okV_X5_met (n_met 5 _ hw (by omega) (by decide +kernel)) (by decide) rfl rfl (Nat.le_of_ble_eq_true rfl) (by decide) hw.h34 (fun h hw => ?_)
              refine EV.iret (pc := 79) dX5_copy_79 trivial ?_
              exact PM.i (by unfold g_copy; rw [if_neg (by rw [nb_F c23, nb_F c32]; simp), if_pos (by rw [nI_iI, nI_iI, iI_eq (by omega) (by omega) (by omega) (by omega)] at c54; omega), if_neg c70]) hw
          · refine EV.aload_n (pc := 57) dX5_copy_57 rfl ?_
            refine EV.bipush (pc := 58) (v := -14) dX5_copy_58 (by decide) ?_
            refine EV.callVPi (pc := 60) (M' := M_X5_met) dX5_copy_60 lkX5_88 okV_X5_met (n_met 4 _ hw (by omega) (by decide +kernel)) (by decide) rfl rfl (Nat.le_of_ble_eq_true rfl) (by decide) hw.h34 (fun h hw => ?_)
            refine EV.iret (pc := 63) dX5_copy_63 trivial ?_
            exact PM.i (by unfold g_copy; rw [if_neg (by rw [nb_F c23, nb_F c32]; simp), if_neg (by rw [nI_iI, nI_iI, iI_eq (by omega) (by omega) (by omega) (by omega)] at c54; omega)]) hw
        · refine EV.aload_n (pc := 35) dX5_copy_35 rfl ?_
          refine EV.bipush (pc := 36) (v := -11) dX5_copy_36 (by decide) ?_
          refine EV.callVPi (pc := 38) (M' := M_X5_met) dX5_copy_38 lkX5_88 okV_X5_met (n_met 1 _ hw (by omega) (by decide +kernel)) (by decide) rfl rfl (Nat.le_of_ble_eq_true rfl) (by decide) hw.h34 (fun h hw => ?_)
          refine EV.iret (pc := 41) dX5_copy_41 trivial ?_
          exact PM.i (by unfold g_copy; rw [if_pos (by first | exact Or.inl (nb_T c23) | exact Or.inr (nb_T c32))]) hw
    · have e0 : f_copy s (nI a) q = (-101, s) := by unfold f_copy; rw [if_neg (fun q => hpt q.2)]
      rw [e0]
      refine MC.of (by decide +kernel) (Nat.le_of_ble_eq_true rfl) (by dsimp only [linit, Nat.reduceSub, List.reduceReplicate] <;> rfl) ?_
      refine EV.iload_n (pc := 0) dX5_copy_0 rfl ?_
      refine EV.callSR1 (pc := 1) (M' := M_X5_isPlate) dX5_copy_1 lkX5_82 okS_X5_isPlate (n_isPlate _) (by decide) rfl rfl (Nat.le_of_ble_eq_true rfl) ?_
      refine EV.if_eq (pc := 4) (tgt := 14) dX5_copy_4 (by decide) (fun q => absurd q (fun q => b2i_F q hpa)) (fun _ => ?_)
      refine EV.iload_n (pc := 7) dX5_copy_7 rfl ?_
      refine EV.callSR1 (pc := 8) (M' := M_X5_isPlate) dX5_copy_8 lkX5_82 okS_X5_isPlate (n_isPlate _) (by decide) rfl rfl (Nat.le_of_ble_eq_true rfl) ?_
      refine EV.if_ne (pc := 11) (tgt := 17) dX5_copy_11 (by decide) (fun q => absurd (b2i_0 hpt).symm q) (fun _ => ?_)
      refine EV.bipush (pc := 14) (v := -101) dX5_copy_14 (by decide) ?_
      exact EV.iret (pc := 16) dX5_copy_16 trivial ⟨rfl, z, hw⟩
  · by_cases hpt : 0 ≤ q.toInt ∧ q.toInt ≤ 5
    · obtain ⟨t, rfl, et, lt⟩ := i_nat hpt.1
      have ht : t < 6 := by omega
      have hdt := hI.1 t ht
      have e0 : f_copy s p (nI t) = (-101, s) := by unfold f_copy; rw [if_neg (fun q => hpa q.1)]
      rw [e0]
      refine MC.of (by decide +kernel) (Nat.le_of_ble_eq_true rfl) (by dsimp only [linit, Nat.reduceSub, List.reduceReplicate] <;> rfl) ?_
      refine EV.iload_n (pc := 0) dX5_copy_0 rfl ?_
      refine EV.callSR1 (pc := 1) (M' := M_X5_isPlate) dX5_copy_1 lkX5_82 okS_X5_isPlate (n_isPlate _) (by decide) rfl rfl (Nat.le_of_ble_eq_true rfl) ?_
      refine EV.if_eq (pc := 4) (tgt := 14) dX5_copy_4 (by decide) (fun _ => ?_) (fun q => absurd (b2i_0 hpa).symm q)
      refine EV.bipush (pc := 14) (v := -101) dX5_copy_14 (by decide) ?_
      exact EV.iret (pc := 16) dX5_copy_16 trivial ⟨rfl, z, hw⟩
    · have e0 : f_copy s p q = (-101, s) := by unfold f_copy; rw [if_neg (fun q => hpa q.1)]
      rw [e0]
      refine MC.of (by decide +kernel) (Nat.le_of_ble_eq_true rfl) (by dsimp only [linit, Nat.reduceSub, List.reduceReplicate] <;> rfl) ?_
      refine EV.iload_n (pc := 0) dX5_copy_0 rfl ?_
      refine EV.callSR1 (pc := 1) (M' := M_X5_isPlate) dX5_copy_1 lkX5_82 okS_X5_isPlate (n_isPlate _) (by decide) rfl rfl (Nat.le_of_ble_eq_true rfl) ?_
      refine EV.if_eq (pc := 4) (tgt := 14) dX5_copy_4 (by decide) (fun _ => ?_) (fun q => absurd (b2i_0 hpa).symm q)
      refine EV.bipush (pc := 14) (v := -101) dX5_copy_14 (by decide) ?_
      exact EV.iret (pc := 16) dX5_copy_16 trivial ⟨rfl, z, hw⟩

set_option maxHeartbeats 4000000 in
set_option maxRecDepth 100000 in
theorem l_nless {G : eG} {ad : Nat → Nat} {s : St} {z : Zm} {hm : Nat → va_E} (a t : Nat) (ha : a < 6) (ht : t < 6) : ∀ (n i : Nat) (h : Nat → va_E), i + n = 400 → MW G ad (S_ct s (va_up (s_ct s) t (cpI (fun k => iCast (s_ct s t k - s_ct s a k) (nI (s_lane s t))) (s_ct s t) i))) z hm h → EV G M_X5_less cX5_less none ad 54 (PM G ad hm (.int 1) (S_ct s (va_up (s_ct s) t (cpI (fun k => iCast (s_ct s t k - s_ct s a k) (nI (s_lane s t))) (s_ct s t) 400)))) 60 [some (.ref (ad 34)), some (.int (nI a)), some (.int (nI t)), some (.int (nI i))] [] h := by
  intro n
  induction n with
  | zero =>
    intro i h hi hw
    have e : i = 400 := by omega
    subst e
    refine EV.iload_n (pc := 60) dX5_less_60 rfl ?_
    refine EV.sipush (pc := 61) (v := 400) dX5_less_61 (by decide) ?_
    refine EV.icmp_ge (pc := 64) (tgt := 119) dX5_less_64 (by decide) (fun _ => ?_) (fun q => absurd ((nI_leI (a := 400) (b := 400) (by omega) (by omega)).mpr (Nat.le_refl _)) q)
    refine EV.iconst (pc := 119) (v := 1) dX5_less_119 (by decide) ?_
    exact EV.iret (pc := 120) dX5_less_120 trivial ⟨rfl, z, hw⟩
  | succ n ih =>
    intro i h hi hw
    refine EV.iload_n (pc := 60) dX5_less_60 rfl ?_
    refine EV.sipush (pc := 61) (v := 400) dX5_less_61 (by decide) ?_
    refine EV.icmp_ge (pc := 64) (tgt := 119) dX5_less_64 (by decide) (fun q => absurd q (fun z => absurd ((nI_leI (a := 400) (b := i) (by omega) (by omega)).mp z) (by omega))) (fun _ => ?_)
    refine EV.aload_n (pc := 67) dX5_less_67 rfl ?_
    refine EV.getf (pc := 68) dX5_less_68 fgX5_23 (by decide) hw.h34 rfl ?_
    refine EV.sipush (pc := 71) (v := 400) dX5_less_71 (by decide) ?_
    refine EV.iload_n (pc := 74) dX5_less_74 rfl ?_
    refine EV.imul (pc := 75) dX5_less_75 ?_
    refine EV.iload_n (pc := 76) dX5_less_76 rfl ?_
    refine EV.iadd (pc := 77) dX5_less_77 ?_
    refine EV.topi (y := nI (400 * t + i)) (ix4 t i) ?_
    refine EV.aload_n (pc := 78) dX5_less_78 rfl ?_
    refine EV.getf (pc := 79) dX5_less_79 fgX5_13 (by decide) hw.h34 rfl ?_
    refine EV.iload_n (pc := 82) dX5_less_82 rfl ?_
    refine EV.iald (pc := 83) dX5_less_83 (by decide) hw.h36 (vp_in_nI (show t < 6 by omega) (by omega)) ?_
    refine EV.topi (y := nI (s_lane s t)) (by rw [nI_clamp (by omega)]) ?_
    refine EV.aload_n (pc := 84) dX5_less_84 rfl ?_
    refine EV.getf (pc := 85) dX5_less_85 fgX5_23 (by decide) hw.h34 rfl ?_
    refine EV.sipush (pc := 88) (v := 400) dX5_less_88 (by decide) ?_
    refine EV.iload_n (pc := 91) dX5_less_91 rfl ?_
    refine EV.imul (pc := 92) dX5_less_92 ?_
    refine EV.iload_n (pc := 93) dX5_less_93 rfl ?_
    refine EV.iadd (pc := 94) dX5_less_94 ?_
    refine EV.topi (y := nI (400 * t + i)) (ix4 t i) ?_
    refine EV.iald (pc := 95) dX5_less_95 (by decide) hw.h39 (vp_in_nI (show 400 * t + i < 2400 by omega) (by omega)) ?_
    refine EV.topi (y := s_ct s t i) (by rw [nI_clamp (by omega)]; show va_up (s_ct s) t (cpI _ (s_ct s t) i) ((400 * t + i) / 400) ((400 * t + i) % 400) = _; rw [show (400 * t + i) / 400 = t by omega, show (400 * t + i) % 400 = i by omega]; exact cpI_rd) ?_
    refine EV.aload_n (pc := 96) dX5_less_96 rfl ?_
    refine EV.getf (pc := 97) dX5_less_97 fgX5_23 (by decide) hw.h34 rfl ?_
    refine EV.sipush (pc := 100) (v := 400) dX5_less_100 (by decide) ?_
    refine EV.iload_n (pc := 103) dX5_less_103 rfl ?_
    refine EV.imul (pc := 104) dX5_less_104 ?_
    refine EV.iload_n (pc := 105) dX5_less_105 rfl ?_
    refine EV.iadd (pc := 106) dX5_less_106 ?_
    refine EV.topi (y := nI (400 * a + i)) (ix4 a i) ?_
    refine EV.iald (pc := 107) dX5_less_107 (by decide) hw.h39 (vp_in_nI (show 400 * a + i < 2400 by omega) (by omega)) ?_
    refine EV.topi (y := s_ct s a i) (by rw [nI_clamp (by omega)]; show va_up (s_ct s) t (cpI _ (s_ct s t) i) ((400 * a + i) / 400) ((400 * a + i) % 400) = _; rw [show (400 * a + i) / 400 = a by omega, show (400 * a + i) % 400 = i by omega]; exact cpI_rd) ?_
    refine EV.isub (pc := 108) dX5_less_108 ?_
    refine EV.callSR1 (pc := 109) (M' := M_X5_cast) dX5_less_109 lkX5_100 okS_X5_cast (n_cast _ _) (by decide) rfl rfl (Nat.le_of_ble_eq_true rfl) ?_
    refine EV.iast (pc := 112) dX5_less_112 (by decide) hw.h39 (vp_in_nI (show 400 * t + i < 2400 by omega) (by omega)) ?_
    refine EV.abs (Pr := MW G ad (S_ct s (va_up (s_ct s) t (cpI (fun k => iCast (s_ct s t k - s_ct s a k) (nI (s_lane s t))) (s_ct s t) (i + 1)))) z hm) (by have q := hw.putc i ((fun k => iCast (s_ct s t k - s_ct s a k) (nI (s_lane s t))) i) (by omega); rw [cpI_s] at q; rw [nI_clamp (by omega)]; exact q) (fun h hw => ?_)
    refine EV.iinc (pc := 113) dX5_less_113 (by decide) rfl (by first | exact nI_inc _ | rfl) (by dsimp only [lst1, lk] <;> rfl) ?_
    refine EV.goto (pc := 116) (tgt := 60) dX5_less_116 (by decide) ?_
    exact ih (i + 1) h (by omega) hw

set_option maxHeartbeats 4000000 in
set_option maxRecDepth 100000 in
theorem q_less {G : eG} {ad : Nat → Nat} {h : Nat → va_E} {s : St} {z : Zm} {hm : Nat → va_E} (hw : MW G ad s z hm h) (hI : Inv s) (p q : Int32)  : MC G M_X5_less cX5_less ad 54 [.ref (ad 34), .int p, .int q] h (PM G ad hm (.int (f_less s p q).1) (f_less s p q).2) := by
  by_cases hpa : 0 ≤ p.toInt ∧ p.toInt ≤ 5
  · obtain ⟨a, rfl, ea, la⟩ := i_nat hpa.1
    have ha : a < 6 := by omega
    have hda := hI.1 a ha
    by_cases hpt : 0 ≤ q.toInt ∧ q.toInt ≤ 5
    · obtain ⟨t, rfl, et, lt⟩ := i_nat hpt.1
      have ht : t < 6 := by omega
      have hdt := hI.1 t ht
      have e0 : f_less s (nI a) (nI t) = g_less s a t := by unfold f_less; rw [if_pos ⟨hpa, hpt⟩, nI_tn (by omega), nI_tn (by omega)]
      rw [e0]
      have en1 := nI_t (show s_lane s a < 2147483648 by omega)
      have en2 := nI_t (show s_lane s t < 2147483648 by omega)
      refine MC.of (by decide +kernel) (Nat.le_of_ble_eq_true rfl) (by dsimp only [linit, Nat.reduceSub, List.reduceReplicate] <;> rfl) ?_
      refine EV.iload_n (pc := 0) dX5_less_0 rfl ?_
      refine EV.callSR1 (pc := 1) (M' := M_X5_isPlate) dX5_less_1 lkX5_82 okS_X5_isPlate (n_isPlate _) (by decide) rfl rfl (Nat.le_of_ble_eq_true rfl) ?_
      refine EV.if_eq (pc := 4) (tgt := 14) dX5_less_4 (by decide) (fun q => absurd q (fun q => b2i_F q hpa)) (fun _ => ?_)
      refine EV.iload_n (pc := 7) dX5_less_7 rfl ?_
      refine EV.callSR1 (pc := 8) (M' := M_X5_isPlate) dX5_less_8 lkX5_82 okS_X5_isPlate (n_isPlate _) (by decide) rfl rfl (Nat.le_of_ble_eq_true rfl) ?_
      refine EV.if_ne (pc := 11) (tgt := 17) dX5_less_11 (by decide) (fun _ => ?_) (fun q => absurd q (fun q => b2i_F q hpt))
      refine EV.aload_n (pc := 17) dX5_less_17 rfl ?_
      refine EV.getf (pc := 18) dX5_less_18 fgX5_7 (by decide) hw.h34 rfl ?_
      refine EV.iload_n (pc := 21) dX5_less_21 rfl ?_
      refine EV.zald (pc := 22) dX5_less_22 (by decide) hw.h35 (vp_in_nI (show a < 6 by omega) (by omega)) ?_
      refine EV.topi (y := b2i (!(s_lost s a))) (by rw [nI_clamp (by omega)]) ?_
      refine EV.if_eq (pc := 23) (tgt := 35) dX5_less_23 (by decide) (fun c23 => ?_) (fun c23 => ?_)
      · refine EV.aload_n (pc := 35) dX5_less_35 rfl ?_
        refine EV.bipush (pc := 36) (v := -11) dX5_less_36 (by decide) ?_
        refine EV.callVPi (pc := 38) (M' := M_X5_met) dX5_less_38 lkX5_88 okV_X5_met (n_met 1 _ hw (by omega) (by decide +kernel)) (by decide) rfl rfl (Nat.le_of_ble_eq_true rfl) (by decide) hw.h34 (fun h hw => ?_)
        refine EV.iret (pc := 41) dX5_less_41 trivial ?_
        exact PM.i (by unfold g_less; rw [if_pos (by first | exact Or.inl (nb_T c23) | exact Or.inr (nb_T c32))]) hw
      · refine EV.aload_n (pc := 26) dX5_less_26 rfl ?_
        refine EV.getf (pc := 27) dX5_less_27 fgX5_7 (by decide) hw.h34 rfl ?_
        refine EV.iload_n (pc := 30) dX5_less_30 rfl ?_
        refine EV.zald (pc := 31) dX5_less_31 (by decide) hw.h35 (vp_in_nI (show t < 6 by omega) (by omega)) ?_
        refine EV.topi (y := b2i (!(s_lost s t))) (by rw [nI_clamp (by omega)]) ?_
        refine EV.if_ne (pc := 32) (tgt := 42) dX5_less_32 (by decide) (fun c32 => ?_) (fun c32 => ?_)
        · refine EV.aload_n (pc := 42) dX5_less_42 rfl ?_
          refine EV.iload_n (pc := 43) dX5_less_43 rfl ?_
          refine EV.iload_n (pc := 44) dX5_less_44 rfl ?_
          refine EV.callVR1 (pc := 45) (M' := M_X5_isLike) dX5_less_45 lkX5_104 okV_X5_isLike (n_isLike a t hw ha ht ⟨hda.1, hda.2.1⟩ ⟨hdt.1, hdt.2.1⟩) (by decide) rfl rfl (Nat.le_of_ble_eq_true rfl) (by decide) hw.h34 ?_
          refine EV.if_ne (pc := 48) (tgt := 58) dX5_less_48 (by decide) (fun c48 => ?_) (fun c48 => ?_)
          · replace c48 := b2i_T c48
            refine EV.iconst (pc := 58) (v := 0) dX5_less_58 (by decide) ?_
            refine EV.istore_n (pc := 59) 3 dX5_less_59 rfl (by decide) (by dsimp only [lst1, lk] <;> rfl) ?_
            have e6 : g_less s a t = (1, (S_ct s (va_up (s_ct s) t (cpI (fun k => iCast (s_ct s t k - s_ct s a k) (nI (s_lane s t))) (s_ct s t) 400)))) := by unfold g_less; rw [if_neg (by rw [nb_F c23, nb_F c32]; simp), if_pos c48]; rfl
            rw [e6]
            exact l_nless a t ha ht 400 0 h rfl (by rw [cpI_0, ct_id]; exact hw)
          · replace c48 := b2i_F c48
            refine EV.aload_n (pc := 51) dX5_less_51 rfl ?_
            refine EV.bipush (pc := 52) (v := -15) dX5_less_52 (by decide) ?_
            refine EV.callVPi (pc := 54) (M' := M_X5_met) dX5_less_54 lkX5_88 okV_X5_met (n_met 5 _ hw (by omega) (by decide +kernel)) (by decide) rfl rfl (Nat.le_of_ble_eq_true rfl) (by decide) hw.h34 (fun h hw => ?_)
            refine EV.iret (pc := 57) dX5_less_57 trivial ?_
            exact PM.i (by unfold g_less; rw [if_neg (by rw [nb_F c23, nb_F c32]; simp), if_neg c48]) hw
        · refine EV.aload_n (pc := 35) dX5_less_35 rfl ?_
          refine EV.bipush (pc := 36) (v := -11) dX5_less_36 (by decide) ?_
          refine EV.callVPi (pc := 38) (M' := M_X5_met) dX5_less_38 lkX5_88 okV_X5_met (n_met 1 _ hw (by omega) (by decide +kernel)) (by decide) rfl rfl (Nat.le_of_ble_eq_true rfl) (by decide) hw.h34 (fun h hw => ?_)
          refine EV.iret (pc := 41) dX5_less_41 trivial ?_
          exact PM.i (by unfold g_less; rw [if_pos (by first | exact Or.inl (nb_T c23) | exact Or.inr (nb_T c32))]) hw
    · have e0 : f_less s (nI a) q = (-101, s) := by unfold f_less; rw [if_neg (fun q => hpt q.2)]
      rw [e0]
      refine MC.of (by decide +kernel) (Nat.le_of_ble_eq_true rfl) (by dsimp only [linit, Nat.reduceSub, List.reduceReplicate] <;> rfl) ?_
      refine EV.iload_n (pc := 0) dX5_less_0 rfl ?_
      refine EV.callSR1 (pc := 1) (M' := M_X5_isPlate) dX5_less_1 lkX5_82 okS_X5_isPlate (n_isPlate _) (by decide) rfl rfl (Nat.le_of_ble_eq_true rfl) ?_
      refine EV.if_eq (pc := 4) (tgt := 14) dX5_less_4 (by decide) (fun q => absurd q (fun q => b2i_F q hpa)) (fun _ => ?_)
      refine EV.iload_n (pc := 7) dX5_less_7 rfl ?_
      refine EV.callSR1 (pc := 8) (M' := M_X5_isPlate) dX5_less_8 lkX5_82 okS_X5_isPlate (n_isPlate _) (by decide) rfl rfl (Nat.le_of_ble_eq_true rfl) ?_
      refine EV.if_ne (pc := 11) (tgt := 17) dX5_less_11 (by decide) (fun q => absurd (b2i_0 hpt).symm q) (fun _ => ?_)
      refine EV.bipush (pc := 14) (v := -101) dX5_less_14 (by decide) ?_
      exact EV.iret (pc := 16) dX5_less_16 trivial ⟨rfl, z, hw⟩
  · by_cases hpt : 0 ≤ q.toInt ∧ q.toInt ≤ 5
    · obtain ⟨t, rfl, et, lt⟩ := i_nat hpt.1
      have ht : t < 6 := by omega
      have hdt := hI.1 t ht
      have e0 : f_less s p (nI t) = (-101, s) := by unfold f_less; rw [if_neg (fun q => hpa q.1)]
      rw [e0]
      refine MC.of (by decide +kernel) (Nat.le_of_ble_eq_true rfl) (by dsimp only [linit, Nat.reduceSub, List.reduceReplicate] <;> rfl) ?_
      refine EV.iload_n (pc := 0) dX5_less_0 rfl ?_
      refine EV.callSR1 (pc := 1) (M' := M_X5_isPlate) dX5_less_1 lkX5_82 okS_X5_isPlate (n_isPlate _) (by decide) rfl rfl (Nat.le_of_ble_eq_true rfl) ?_
      refine EV.if_eq (pc := 4) (tgt := 14) dX5_less_4 (by decide) (fun _ => ?_) (fun q => absurd (b2i_0 hpa).symm q)
      refine EV.bipush (pc := 14) (v := -101) dX5_less_14 (by decide) ?_
      exact EV.iret (pc := 16) dX5_less_16 trivial ⟨rfl, z, hw⟩
    · have e0 : f_less s p q = (-101, s) := by unfold f_less; rw [if_neg (fun q => hpa q.1)]
      rw [e0]
      refine MC.of (by decide +kernel) (Nat.le_of_ble_eq_true rfl) (by dsimp only [linit, Nat.reduceSub, List.reduceReplicate] <;> rfl) ?_
      refine EV.iload_n (pc := 0) dX5_less_0 rfl ?_
      refine EV.callSR1 (pc := 1) (M' := M_X5_isPlate) dX5_less_1 lkX5_82 okS_X5_isPlate (n_isPlate _) (by decide) rfl rfl (Nat.le_of_ble_eq_true rfl) ?_
      refine EV.if_eq (pc := 4) (tgt := 14) dX5_less_4 (by decide) (fun _ => ?_) (fun q => absurd (b2i_0 hpa).symm q)
      refine EV.bipush (pc := 14) (v := -101) dX5_less_14 (by decide) ?_
      exact EV.iret (pc := 16) dX5_less_16 trivial ⟨rfl, z, hw⟩

set_option maxHeartbeats 4000000 in
set_option maxRecDepth 100000 in
theorem q_number {G : eG} {ad : Nat → Nat} {h : Nat → va_E} {s : St} {z : Zm} {hm : Nat → va_E} (hw : MW G ad s z hm h) (hI : Inv s) (c : Int32) (x : Int32)  : MC G M_X5_number cX5_number ad 54 [.ref (ad 34), .int c, .int x] h (PM G ad hm (.long (f_number s c x)) s) := by
  have hcn : s_cn s ≤ 4 := hI.2.2.1
  by_cases hp : 0 ≤ c.toInt ∧ c.toInt < s_cn s
  · obtain ⟨k, rfl, ek, lk⟩ := i_nat hp.1
    have hk : k < s_cn s := by omega
    have hk4 : k < 4 := by omega
    have hco : s_co s k ≤ 20 := (hI.2.2.2.1 k hk4).2.2.2
    have e1 : (nI (s_co s k) - 1).toInt = (s_co s k : Int) - 1 := by rw [nI_iI, show (1 : Int32) = iI 1 from iI_lit 1, iI_sub, iI_toInt (by omega) (by omega)]
    refine MC.of (by decide +kernel) (Nat.le_of_ble_eq_true rfl) (by dsimp only [linit, Nat.reduceSub, List.reduceReplicate] <;> rfl) ?_
    refine EV.aload_n (pc := 0) dX5_number_0 rfl ?_
    refine EV.iload_n (pc := 1) dX5_number_1 rfl ?_
    refine EV.callVR1 (pc := 2) (M' := M_X5_isComb) dX5_number_2 lkX5_117 okV_X5_isComb (n_isComb _ hw hcn) (by decide) rfl rfl (Nat.le_of_ble_eq_true rfl) (by decide) hw.h34 ?_
    refine EV.if_ne (pc := 5) (tgt := 12) dX5_number_5 (by decide) (fun _ => ?_) (fun q => absurd q (fun q => b2i_F q hp))
    refine EV.iload_n (pc := 12) dX5_number_12 rfl ?_
    refine EV.i2l (pc := 13) dX5_number_13 ?_
    refine EV.lconst (pc := 14) (v := 0) dX5_number_14 (by decide) ?_
    refine EV.aload_n (pc := 15) dX5_number_15 rfl ?_
    refine EV.getf (pc := 16) dX5_number_16 fgX5_38 (by decide) hw.h34 rfl ?_
    refine EV.iload_n (pc := 19) dX5_number_19 rfl ?_
    refine EV.iald (pc := 20) dX5_number_20 (by decide) hw.h44 (vp_in_nI (show k < 4 by omega) (by omega)) ?_
    refine EV.topi (y := nI (s_co s k)) (by rw [nI_clamp (by omega)]) ?_
    refine EV.iconst (pc := 21) (v := 1) dX5_number_21 (by decide) ?_
    refine EV.isub (pc := 22) dX5_number_22 ?_
    refine EV.i2l (pc := 23) dX5_number_23 ?_
    refine EV.callSR1 (pc := 24) (M' := M_X5_in) dX5_number_24 lkX5_75 okS_X5_in (n_in _ _ _) (by decide) rfl rfl (Nat.le_of_ble_eq_true rfl) ?_
    refine EV.if_eq (pc := 27) (tgt := 44) dX5_number_27 (by decide) (fun c27 => ?_) (fun c27 => ?_)
    · replace c27 := b2i_F c27
      try simp only [Int32.lt_iff_toInt_lt, Int32.le_iff_toInt_le, ← Int32.toInt_inj, Int64.lt_iff_toInt_lt, Int64.le_iff_toInt_le, ← Int64.toInt_inj, Int32.toInt_toInt64, i_l0, i_l1, i_l2, i_l5, i_l19, i_m1, j_l0, j_l1, j_l5, i_l3, i_l4, i_l6, i_l7, i_l8, i_l9, i_l12, i_l16, i_l20, i_l60, i_l64, i_l100, i_l200, i_l304, i_l2000, i_l10000, i_l100000, i_l1000000, i_n1000000, i_n19, i_n101, j_l2, j_l3, j_l19, j_l304, j_l2000, j_l10000, j_l100000, j_l1000000, j_l60, j_l100, j_n1000000, j_n19, e1] at c27
      refine EV.ldc2 (pc := 44) dX5_number_44 kcX5_160 ?_
      refine EV.lret (pc := 47) dX5_number_47 trivial ?_
      exact PM.mk (by unfold f_number; rw [if_pos hp, nI_tn (by omega)]; first | (rw [if_pos (by omega), nI_tn (by omega)]) | (rw [if_neg (by omega)])) rfl hw
    · replace c27 := b2i_T c27
      try simp only [Int32.lt_iff_toInt_lt, Int32.le_iff_toInt_le, ← Int32.toInt_inj, Int64.lt_iff_toInt_lt, Int64.le_iff_toInt_le, ← Int64.toInt_inj, Int32.toInt_toInt64, i_l0, i_l1, i_l2, i_l5, i_l19, i_m1, j_l0, j_l1, j_l5, i_l3, i_l4, i_l6, i_l7, i_l8, i_l9, i_l12, i_l16, i_l20, i_l60, i_l64, i_l100, i_l200, i_l304, i_l2000, i_l10000, i_l100000, i_l1000000, i_n1000000, i_n19, i_n101, j_l2, j_l3, j_l19, j_l304, j_l2000, j_l10000, j_l100000, j_l1000000, j_l60, j_l100, j_n1000000, j_n19, e1] at c27
      obtain ⟨x1, rfl, ex1, lx1⟩ := i_nat (show 0 ≤ x.toInt by omega)
      refine EV.aload_n (pc := 30) dX5_number_30 rfl ?_
      refine EV.getf (pc := 31) dX5_number_31 fgX5_41 (by decide) hw.h34 rfl ?_
      refine EV.bipush (pc := 34) (v := 20) dX5_number_34 (by decide) ?_
      refine EV.iload_n (pc := 36) dX5_number_36 rfl ?_
      refine EV.imul (pc := 37) dX5_number_37 ?_
      refine EV.iload_n (pc := 38) dX5_number_38 rfl ?_
      refine EV.iadd (pc := 39) dX5_number_39 ?_
      refine EV.topi (y := nI (20 * k + x1)) (ix2 k x1) ?_
      refine EV.lald (pc := 40) dX5_number_40 (by decide) hw.h45 (vp_in_nI (show 20 * k + x1 < 80 by omega) (by omega)) ?_
      refine EV.topl (y := lN (s_nm s k x1)) (by rw [nI_clamp (by omega)]; exact congrArg lN (n_rd2 (f := s_nm s) (by omega))) ?_
      refine EV.goto (pc := 41) (tgt := 47) dX5_number_41 (by decide) ?_
      refine EV.lret (pc := 47) dX5_number_47 trivial ?_
      exact PM.mk (by unfold f_number; rw [if_pos hp, nI_tn (by omega)]; first | (rw [if_pos (by omega), nI_tn (by omega)]) | (rw [if_neg (by omega)])) rfl hw
  · refine MC.of (by decide +kernel) (Nat.le_of_ble_eq_true rfl) (by dsimp only [linit, Nat.reduceSub, List.reduceReplicate] <;> rfl) ?_
    refine EV.aload_n (pc := 0) dX5_number_0 rfl ?_
    refine EV.iload_n (pc := 1) dX5_number_1 rfl ?_
    refine EV.callVR1 (pc := 2) (M' := M_X5_isComb) dX5_number_2 lkX5_117 okV_X5_isComb (n_isComb _ hw hcn) (by decide) rfl rfl (Nat.le_of_ble_eq_true rfl) (by decide) hw.h34 ?_
    refine EV.if_ne (pc := 5) (tgt := 12) dX5_number_5 (by decide) (fun q => absurd (b2i_0 hp).symm q) (fun _ => ?_)
    refine EV.ldc2 (pc := 8) dX5_number_8 kcX5_158 ?_
    refine EV.lret (pc := 11) dX5_number_11 trivial ?_
    exact PM.mk (by unfold f_number; rw [if_neg hp]) rfl hw

set_option maxHeartbeats 4000000 in
set_option maxRecDepth 100000 in
theorem n_told {G : eG} {ad : Nat → Nat} {h : Nat → va_E} {s : St} {z : Zm} {hm : Nat → va_E} (hw : MW G ad s z hm h) (hI : Inv s) (c w : Int32)  : MC G M_X5_told cX5_told ad 54 [.ref (ad 34), .int c, .int w] h (IS (some (.int (f_told s c w))) h) := by
  have hcn : s_cn s ≤ 4 := hI.2.2.1
  by_cases hp : 0 ≤ c.toInt ∧ c.toInt < s_cn s
  · obtain ⟨k, rfl, ek, lk⟩ := i_nat hp.1
    have hk : k < s_cn s := by omega
    have hk4 : k < 4 := by omega
    by_cases hx : 0 ≤ w.toInt ∧ w.toInt ≤ 7
    · obtain ⟨w1, rfl, ew, lw⟩ := i_nat hx.1
      have h7 : w1 ≤ 7 := by omega
      have e0 : f_told s (nI k) (nI w1) = g_fact s k w1 := by unfold f_told; rw [if_pos hp, if_pos hx, nI_tn (by omega), nI_tn (by omega)]
      rw [e0]
      refine MC.of (by decide +kernel) (Nat.le_of_ble_eq_true rfl) (by dsimp only [linit, Nat.reduceSub, List.reduceReplicate] <;> rfl) ?_
      refine EV.aload_n (pc := 0) dX5_told_0 rfl ?_
      refine EV.iload_n (pc := 1) dX5_told_1 rfl ?_
      refine EV.callVR1 (pc := 2) (M' := M_X5_isComb) dX5_told_2 lkX5_117 okV_X5_isComb (n_isComb _ hw hcn) (by decide) rfl rfl (Nat.le_of_ble_eq_true rfl) (by decide) hw.h34 ?_
      refine EV.if_ne (pc := 5) (tgt := 11) dX5_told_5 (by decide) (fun _ => ?_) (fun q => absurd q (fun q => b2i_F q hp))
      refine EV.iload_n (pc := 11) dX5_told_11 rfl ?_
      skip
      match w1, h7 with
      | 0, _ =>
        refine EV.tin (pc := 12) (tgt := 60) (off := 48) dX5_told_12 (by decide +kernel) (by decide +kernel) (by decide +kernel) (by decide) ?_
        refine EV.aload_n (pc := 60) dX5_told_60 rfl ?_
        refine EV.getf (pc := 61) dX5_told_61 fgX5_29 (by decide) hw.h34 rfl ?_
        refine EV.iload_n (pc := 64) dX5_told_64 rfl ?_
        refine EV.iald (pc := 65) dX5_told_65 (by decide) hw.h41 (vp_in_nI (show k < 4 by omega) (by omega)) ?_
        refine EV.topi (y := nI (s_ca s k)) (by rw [nI_clamp (by omega)]) ?_
        refine EV.iret (pc := 66) dX5_told_66 trivial ?_
        exact ⟨rfl, rfl⟩
      | 1, _ =>
        refine EV.tin (pc := 12) (tgt := 67) (off := 55) dX5_told_12 (by decide +kernel) (by decide +kernel) (by decide +kernel) (by decide) ?_
        refine EV.aload_n (pc := 67) dX5_told_67 rfl ?_
        refine EV.getf (pc := 68) dX5_told_68 fgX5_32 (by decide) hw.h34 rfl ?_
        refine EV.iload_n (pc := 71) dX5_told_71 rfl ?_
        refine EV.iald (pc := 72) dX5_told_72 (by decide) hw.h42 (vp_in_nI (show k < 4 by omega) (by omega)) ?_
        refine EV.topi (y := nI (s_cb s k)) (by rw [nI_clamp (by omega)]) ?_
        refine EV.iret (pc := 73) dX5_told_73 trivial ?_
        exact ⟨rfl, rfl⟩
      | 2, _ =>
        refine EV.tin (pc := 12) (tgt := 74) (off := 62) dX5_told_12 (by decide +kernel) (by decide +kernel) (by decide +kernel) (by decide) ?_
        refine EV.aload_n (pc := 74) dX5_told_74 rfl ?_
        refine EV.getf (pc := 75) dX5_told_75 fgX5_35 (by decide) hw.h34 rfl ?_
        refine EV.iload_n (pc := 78) dX5_told_78 rfl ?_
        refine EV.iald (pc := 79) dX5_told_79 (by decide) hw.h43 (vp_in_nI (show k < 4 by omega) (by omega)) ?_
        refine EV.topi (y := nI (s_cr s k)) (by rw [nI_clamp (by omega)]) ?_
        refine EV.iret (pc := 80) dX5_told_80 trivial ?_
        exact ⟨rfl, rfl⟩
      | 3, _ =>
        refine EV.tin (pc := 12) (tgt := 81) (off := 69) dX5_told_12 (by decide +kernel) (by decide +kernel) (by decide +kernel) (by decide) ?_
        refine EV.aload_n (pc := 81) dX5_told_81 rfl ?_
        refine EV.getf (pc := 82) dX5_told_82 fgX5_38 (by decide) hw.h34 rfl ?_
        refine EV.iload_n (pc := 85) dX5_told_85 rfl ?_
        refine EV.iald (pc := 86) dX5_told_86 (by decide) hw.h44 (vp_in_nI (show k < 4 by omega) (by omega)) ?_
        refine EV.topi (y := nI (s_co s k)) (by rw [nI_clamp (by omega)]) ?_
        refine EV.iret (pc := 87) dX5_told_87 trivial ?_
        exact ⟨rfl, rfl⟩
      | 4, _ =>
        refine EV.tin (pc := 12) (tgt := 88) (off := 76) dX5_told_12 (by decide +kernel) (by decide +kernel) (by decide +kernel) (by decide) ?_
        refine EV.aload_n (pc := 88) dX5_told_88 rfl ?_
        refine EV.getf (pc := 89) dX5_told_89 fgX5_45 (by decide) hw.h34 rfl ?_
        refine EV.iload_n (pc := 92) dX5_told_92 rfl ?_
        refine EV.zald (pc := 93) dX5_told_93 (by decide) hw.h46 (vp_in_nI (show k < 4 by omega) (by omega)) ?_
        refine EV.topi (y := b2i (s_li s k)) (by rw [nI_clamp (by omega)]) ?_
        refine EV.if_eq (pc := 94) (tgt := 101) dX5_told_94 (by decide) (fun c94 => ?_) (fun c94 => ?_)
        · replace c94 := b2i_eq c94
          refine EV.iconst (pc := 101) (v := 0) dX5_told_101 (by decide) ?_
          refine EV.iret (pc := 102) dX5_told_102 trivial ?_
          refine ⟨congrArg (fun z => some (Value.int z)) ?_, rfl⟩
          show _ = b2i (s_li s k)
          first | (rw [c94]; rfl)
        · replace c94 := b2i_ne c94
          refine EV.iconst (pc := 97) (v := 1) dX5_told_97 (by decide) ?_
          refine EV.goto (pc := 98) (tgt := 102) dX5_told_98 (by decide) ?_
          refine EV.iret (pc := 102) dX5_told_102 trivial ?_
          refine ⟨congrArg (fun z => some (Value.int z)) ?_, rfl⟩
          show _ = b2i (s_li s k)
          first | (rw [c94]; rfl)
      | 5, _ =>
        refine EV.tin (pc := 12) (tgt := 103) (off := 91) dX5_told_12 (by decide +kernel) (by decide +kernel) (by decide +kernel) (by decide) ?_
        refine EV.aload_n (pc := 103) dX5_told_103 rfl ?_
        refine EV.getf (pc := 104) dX5_told_104 fgX5_45 (by decide) hw.h34 rfl ?_
        refine EV.iload_n (pc := 107) dX5_told_107 rfl ?_
        refine EV.zald (pc := 108) dX5_told_108 (by decide) hw.h46 (vp_in_nI (show k < 4 by omega) (by omega)) ?_
        refine EV.topi (y := b2i (s_li s k)) (by rw [nI_clamp (by omega)]) ?_
        refine EV.if_eq (pc := 109) (tgt := 121) dX5_told_109 (by decide) (fun c109 => ?_) (fun c109 => ?_)
        · replace c109 := b2i_eq c109
          refine EV.iconst (pc := 121) (v := 0) dX5_told_121 (by decide) ?_
          refine EV.iret (pc := 122) dX5_told_122 trivial ?_
          refine ⟨congrArg (fun z => some (Value.int z)) ?_, rfl⟩
          show _ = s_lA s k
          first | exact (hw.jk k hk4 c109).1 | exact ((hI.2.2.2.2.2.2.1 k hk4 c109).1).symm
        · replace c109 := b2i_ne c109
          refine EV.aload_n (pc := 112) dX5_told_112 rfl ?_
          refine EV.getf (pc := 113) dX5_told_113 fgX5_48 (by decide) hw.h34 rfl ?_
          refine EV.iload_n (pc := 116) dX5_told_116 rfl ?_
          refine EV.iald (pc := 117) dX5_told_117 (by decide) hw.h47 (vp_in_nI (show k < 4 by omega) (by omega)) ?_
          refine EV.topi (y := m_jA z k) (by rw [nI_clamp (by omega)]) ?_
          refine EV.goto (pc := 118) (tgt := 122) dX5_told_118 (by decide) ?_
          refine EV.iret (pc := 122) dX5_told_122 trivial ?_
          refine ⟨congrArg (fun z => some (Value.int z)) ?_, rfl⟩
          show _ = s_lA s k
          first | exact (hw.jk k hk4 c109).1 | exact ((hI.2.2.2.2.2.2.1 k hk4 c109).1).symm
      | 6, _ =>
        refine EV.tin (pc := 12) (tgt := 123) (off := 111) dX5_told_12 (by decide +kernel) (by decide +kernel) (by decide +kernel) (by decide) ?_
        refine EV.aload_n (pc := 123) dX5_told_123 rfl ?_
        refine EV.getf (pc := 124) dX5_told_124 fgX5_45 (by decide) hw.h34 rfl ?_
        refine EV.iload_n (pc := 127) dX5_told_127 rfl ?_
        refine EV.zald (pc := 128) dX5_told_128 (by decide) hw.h46 (vp_in_nI (show k < 4 by omega) (by omega)) ?_
        refine EV.topi (y := b2i (s_li s k)) (by rw [nI_clamp (by omega)]) ?_
        refine EV.if_eq (pc := 129) (tgt := 141) dX5_told_129 (by decide) (fun c129 => ?_) (fun c129 => ?_)
        · replace c129 := b2i_eq c129
          refine EV.iconst (pc := 141) (v := 0) dX5_told_141 (by decide) ?_
          refine EV.iret (pc := 142) dX5_told_142 trivial ?_
          refine ⟨congrArg (fun z => some (Value.int z)) ?_, rfl⟩
          show _ = s_lB s k
          first | exact (hw.jk k hk4 c129).2.1 | exact ((hI.2.2.2.2.2.2.1 k hk4 c129).2.1).symm
        · replace c129 := b2i_ne c129
          refine EV.aload_n (pc := 132) dX5_told_132 rfl ?_
          refine EV.getf (pc := 133) dX5_told_133 fgX5_51 (by decide) hw.h34 rfl ?_
          refine EV.iload_n (pc := 136) dX5_told_136 rfl ?_
          refine EV.iald (pc := 137) dX5_told_137 (by decide) hw.h48 (vp_in_nI (show k < 4 by omega) (by omega)) ?_
          refine EV.topi (y := m_jB z k) (by rw [nI_clamp (by omega)]) ?_
          refine EV.goto (pc := 138) (tgt := 142) dX5_told_138 (by decide) ?_
          refine EV.iret (pc := 142) dX5_told_142 trivial ?_
          refine ⟨congrArg (fun z => some (Value.int z)) ?_, rfl⟩
          show _ = s_lB s k
          first | exact (hw.jk k hk4 c129).2.1 | exact ((hI.2.2.2.2.2.2.1 k hk4 c129).2.1).symm
      | 7, _ =>
        refine EV.tin (pc := 12) (tgt := 143) (off := 131) dX5_told_12 (by decide +kernel) (by decide +kernel) (by decide +kernel) (by decide) ?_
        refine EV.aload_n (pc := 143) dX5_told_143 rfl ?_
        refine EV.getf (pc := 144) dX5_told_144 fgX5_45 (by decide) hw.h34 rfl ?_
        refine EV.iload_n (pc := 147) dX5_told_147 rfl ?_
        refine EV.zald (pc := 148) dX5_told_148 (by decide) hw.h46 (vp_in_nI (show k < 4 by omega) (by omega)) ?_
        refine EV.topi (y := b2i (s_li s k)) (by rw [nI_clamp (by omega)]) ?_
        refine EV.if_eq (pc := 149) (tgt := 161) dX5_told_149 (by decide) (fun c149 => ?_) (fun c149 => ?_)
        · replace c149 := b2i_eq c149
          refine EV.iconst (pc := 161) (v := 0) dX5_told_161 (by decide) ?_
          refine EV.iret (pc := 162) dX5_told_162 trivial ?_
          refine ⟨congrArg (fun z => some (Value.int z)) ?_, rfl⟩
          show _ = s_lF s k
          first | exact (hw.jk k hk4 c149).2.2 | exact ((hI.2.2.2.2.2.2.1 k hk4 c149).2.2).symm
        · replace c149 := b2i_ne c149
          refine EV.aload_n (pc := 152) dX5_told_152 rfl ?_
          refine EV.getf (pc := 153) dX5_told_153 fgX5_54 (by decide) hw.h34 rfl ?_
          refine EV.iload_n (pc := 156) dX5_told_156 rfl ?_
          refine EV.iald (pc := 157) dX5_told_157 (by decide) hw.h49 (vp_in_nI (show k < 4 by omega) (by omega)) ?_
          refine EV.topi (y := m_jF z k) (by rw [nI_clamp (by omega)]) ?_
          refine EV.goto (pc := 158) (tgt := 162) dX5_told_158 (by decide) ?_
          refine EV.iret (pc := 162) dX5_told_162 trivial ?_
          refine ⟨congrArg (fun z => some (Value.int z)) ?_, rfl⟩
          show _ = s_lF s k
          first | exact (hw.jk k hk4 c149).2.2 | exact ((hI.2.2.2.2.2.2.1 k hk4 c149).2.2).symm
    · have e0 : f_told s (nI k) w = -102 := by unfold f_told; rw [if_pos hp, if_neg hx]
      rw [e0]
      refine MC.of (by decide +kernel) (Nat.le_of_ble_eq_true rfl) (by dsimp only [linit, Nat.reduceSub, List.reduceReplicate] <;> rfl) ?_
      refine EV.aload_n (pc := 0) dX5_told_0 rfl ?_
      refine EV.iload_n (pc := 1) dX5_told_1 rfl ?_
      refine EV.callVR1 (pc := 2) (M' := M_X5_isComb) dX5_told_2 lkX5_117 okV_X5_isComb (n_isComb _ hw hcn) (by decide) rfl rfl (Nat.le_of_ble_eq_true rfl) (by decide) hw.h34 ?_
      refine EV.if_ne (pc := 5) (tgt := 11) dX5_told_5 (by decide) (fun _ => ?_) (fun q => absurd q (fun q => b2i_F q hp))
      refine EV.iload_n (pc := 11) dX5_told_11 rfl ?_
      refine EV.tout (pc := 12) (tgt := 163) dX5_told_12 (by omega) (by decide) ?_
      refine EV.bipush (pc := 163) (v := -102) dX5_told_163 (by decide) ?_
      exact EV.iret (pc := 165) dX5_told_165 trivial ⟨rfl, rfl⟩
  · have e0 : f_told s c w = -101 := by unfold f_told; rw [if_neg hp]
    rw [e0]
    refine MC.of (by decide +kernel) (Nat.le_of_ble_eq_true rfl) (by dsimp only [linit, Nat.reduceSub, List.reduceReplicate] <;> rfl) ?_
    refine EV.aload_n (pc := 0) dX5_told_0 rfl ?_
    refine EV.iload_n (pc := 1) dX5_told_1 rfl ?_
    refine EV.callVR1 (pc := 2) (M' := M_X5_isComb) dX5_told_2 lkX5_117 okV_X5_isComb (n_isComb _ hw hcn) (by decide) rfl rfl (Nat.le_of_ble_eq_true rfl) (by decide) hw.h34 ?_
    refine EV.if_ne (pc := 5) (tgt := 11) dX5_told_5 (by decide) (fun q => absurd (b2i_0 hp).symm q) (fun _ => ?_)
    refine EV.bipush (pc := 8) (v := -101) dX5_told_8 (by decide) ?_
    exact EV.iret (pc := 10) dX5_told_10 trivial ⟨rfl, rfl⟩

set_option maxHeartbeats 4000000 in
set_option maxRecDepth 100000 in
theorem q_told {G : eG} {ad : Nat → Nat} {h : Nat → va_E} {s : St} {z : Zm} {hm : Nat → va_E} (hw : MW G ad s z hm h) (hI : Inv s) (c w : Int32)  : MC G M_X5_told cX5_told ad 54 [.ref (ad 34), .int c, .int w] h (PM G ad hm (.int (f_told s c w)) s) := by
  exact MC.mono (n_told hw hI c w) (fun v h2 q => ⟨q.1, z, by rw [q.2]; exact hw⟩)

theorem law_st (s : St) (k : Nat) (x y w a b f : Int32) : S_lF (S_lB (S_lA (S_lF (S_lB (S_lA (S_li s (va_up (s_li s) k true)) (va_up (s_lA s) k x)) (va_up (s_lB s) k y)) (va_up (s_lF s) k w)) (upd (s_lA (S_lF (S_lB (S_lA (S_li s (va_up (s_li s) k true)) (va_up (s_lA s) k x)) (va_up (s_lB s) k y)) (va_up (s_lF s) k w))) k a)) (upd (s_lB (S_lA (S_lF (S_lB (S_lA (S_li s (va_up (s_li s) k true)) (va_up (s_lA s) k x)) (va_up (s_lB s) k y)) (va_up (s_lF s) k w)) (upd (s_lA (S_lF (S_lB (S_lA (S_li s (va_up (s_li s) k true)) (va_up (s_lA s) k x)) (va_up (s_lB s) k y)) (va_up (s_lF s) k w))) k a))) k b)) (upd (s_lF (S_lB (S_lA (S_lF (S_lB (S_lA (S_li s (va_up (s_li s) k true)) (va_up (s_lA s) k x)) (va_up (s_lB s) k y)) (va_up (s_lF s) k w)) (upd (s_lA (S_lF (S_lB (S_lA (S_li s (va_up (s_li s) k true)) (va_up (s_lA s) k x)) (va_up (s_lB s) k y)) (va_up (s_lF s) k w))) k a)) (upd (s_lB (S_lA (S_lF (S_lB (S_lA (S_li s (va_up (s_li s) k true)) (va_up (s_lA s) k x)) (va_up (s_lB s) k y)) (va_up (s_lF s) k w)) (upd (s_lA (S_lF (S_lB (S_lA (S_li s (va_up (s_li s) k true)) (va_up (s_lA s) k x)) (va_up (s_lB s) k y)) (va_up (s_lF s) k w))) k a))) k b))) k f) = S_lF (S_lB (S_lA (S_li s (va_up (s_li s) k true)) (va_up (s_lA s) k a)) (va_up (s_lB s) k b)) (va_up (s_lF s) k f) := by
  have e : ∀ (g : Nat → Int32) (v w : Int32), upd (va_up g k v) k w = va_up g k w := by
    intro g v w
    funext j
    simp only [upd, va_up]
    split <;> rfl
  obtain ⟨a1, a2, a3, a4, a5, a6, a7, a8, a9, a10, a11, a12, a13, a14, a15, a16, a17, a18, a19, a20, a21, a22, a23, a24⟩ := s
  simp only [s_lA, s_lB, s_lF, s_li, S_lA, S_lB, S_lF, S_li, e]

set_option maxHeartbeats 4000000 in
set_option maxRecDepth 100000 in
theorem q_law {G : eG} {ad : Nat → Nat} {h : Nat → va_E} {s : St} {z : Zm} {hm : Nat → va_E} (hw : MW G ad s z hm h) (hI : Inv s) (c a b : Int32)  : MC G M_X5_law cX5_law ad 54 [.ref (ad 34), .int c, .int a, .int b] h (PM G ad hm (.int (f_law s c a b).1) (f_law s c a b).2) := by
  have hcn : s_cn s ≤ 4 := hI.2.2.1
  by_cases hp : 0 ≤ c.toInt ∧ c.toInt < s_cn s
  · obtain ⟨k, rfl, ek, lk⟩ := i_nat hp.1
    have hk : k < s_cn s := by omega
    have hk4 : k < 4 := by omega
    have e0 : f_law s (nI k) a b = g_law s k a b := by unfold f_law; rw [if_pos hp, nI_tn (by omega)]
    rw [e0]
    have hco : s_co s k ≤ 20 := (hI.2.2.2.1 k hk4).2.2.2
    have en := nI_t (show s_co s k < 2147483648 by omega)
    refine MC.of (by decide +kernel) (Nat.le_of_ble_eq_true rfl) (by dsimp only [linit, Nat.reduceSub, List.reduceReplicate] <;> rfl) ?_
    refine EV.aload_n (pc := 0) dX5_law_0 rfl ?_
    refine EV.iload_n (pc := 1) dX5_law_1 rfl ?_
    refine EV.callVR1 (pc := 2) (M' := M_X5_isComb) dX5_law_2 lkX5_117 okV_X5_isComb (n_isComb _ hw hcn) (by decide) rfl rfl (Nat.le_of_ble_eq_true rfl) (by decide) hw.h34 ?_
    refine EV.if_ne (pc := 5) (tgt := 11) dX5_law_5 (by decide) (fun _ => ?_) (fun q => absurd q (fun q => b2i_F q hp))
    refine EV.iload_n (pc := 11) dX5_law_11 rfl ?_
    refine EV.i2l (pc := 12) dX5_law_12 ?_
    refine EV.ldc2 (pc := 13) dX5_law_13 kcX5_180 ?_
    refine EV.ldc2 (pc := 16) dX5_law_16 kcX5_171 ?_
    refine EV.callSR1 (pc := 19) (M' := M_X5_in) dX5_law_19 lkX5_75 okS_X5_in (n_in _ _ _) (by decide) rfl rfl (Nat.le_of_ble_eq_true rfl) ?_
    refine EV.if_eq (pc := 22) (tgt := 37) dX5_law_22 (by decide) (fun c22 => ?_) (fun c22 => ?_)
    · replace c22 := b2i_F c22
      try simp only [Int32.lt_iff_toInt_lt, Int32.le_iff_toInt_le, ← Int32.toInt_inj, Int64.lt_iff_toInt_lt, Int64.le_iff_toInt_le, ← Int64.toInt_inj, Int32.toInt_toInt64, i_l0, i_l1, i_l2, i_l5, i_l19, i_m1, j_l0, j_l1, j_l5, i_l3, i_l4, i_l6, i_l7, i_l8, i_l9, i_l12, i_l16, i_l20, i_l60, i_l64, i_l100, i_l200, i_l304, i_l2000, i_l10000, i_l100000, i_l1000000, i_n1000000, i_n19, i_n101, j_l2, j_l3, j_l19, j_l304, j_l2000, j_l10000, j_l100000, j_l1000000, j_l60, j_l100, j_n1000000, j_n19, en] at c22
      refine EV.bipush (pc := 37) (v := -102) dX5_law_37 (by decide) ?_
      refine EV.iret (pc := 39) dX5_law_39 trivial ?_
      exact PM.i (by unfold g_law; rw [if_neg (by omega)]) hw
    · replace c22 := b2i_T c22
      try simp only [Int32.lt_iff_toInt_lt, Int32.le_iff_toInt_le, ← Int32.toInt_inj, Int64.lt_iff_toInt_lt, Int64.le_iff_toInt_le, ← Int64.toInt_inj, Int32.toInt_toInt64, i_l0, i_l1, i_l2, i_l5, i_l19, i_m1, j_l0, j_l1, j_l5, i_l3, i_l4, i_l6, i_l7, i_l8, i_l9, i_l12, i_l16, i_l20, i_l60, i_l64, i_l100, i_l200, i_l304, i_l2000, i_l10000, i_l100000, i_l1000000, i_n1000000, i_n19, i_n101, j_l2, j_l3, j_l19, j_l304, j_l2000, j_l10000, j_l100000, j_l1000000, j_l60, j_l100, j_n1000000, j_n19, en] at c22
      refine EV.iload_n (pc := 25) dX5_law_25 rfl ?_
      refine EV.i2l (pc := 26) dX5_law_26 ?_
      refine EV.lconst (pc := 27) (v := 1) dX5_law_27 (by decide) ?_
      refine EV.ldc2 (pc := 28) dX5_law_28 kcX5_143 ?_
      refine EV.callSR1 (pc := 31) (M' := M_X5_in) dX5_law_31 lkX5_75 okS_X5_in (n_in _ _ _) (by decide) rfl rfl (Nat.le_of_ble_eq_true rfl) ?_
      refine EV.if_ne (pc := 34) (tgt := 40) dX5_law_34 (by decide) (fun c34 => ?_) (fun c34 => ?_)
      · replace c34 := b2i_T c34
        try simp only [Int32.lt_iff_toInt_lt, Int32.le_iff_toInt_le, ← Int32.toInt_inj, Int64.lt_iff_toInt_lt, Int64.le_iff_toInt_le, ← Int64.toInt_inj, Int32.toInt_toInt64, i_l0, i_l1, i_l2, i_l5, i_l19, i_m1, j_l0, j_l1, j_l5, i_l3, i_l4, i_l6, i_l7, i_l8, i_l9, i_l12, i_l16, i_l20, i_l60, i_l64, i_l100, i_l200, i_l304, i_l2000, i_l10000, i_l100000, i_l1000000, i_n1000000, i_n19, i_n101, j_l2, j_l3, j_l19, j_l304, j_l2000, j_l10000, j_l100000, j_l1000000, j_l60, j_l100, j_n1000000, j_n19, en] at c34
        refine EV.aload_n (pc := 40) dX5_law_40 rfl ?_
        refine EV.getf (pc := 41) dX5_law_41 fgX5_38 (by decide) hw.h34 rfl ?_
        refine EV.iload_n (pc := 44) dX5_law_44 rfl ?_
        refine EV.iald (pc := 45) dX5_law_45 (by decide) hw.h44 (vp_in_nI (show k < 4 by omega) (by omega)) ?_
        refine EV.topi (y := nI (s_co s k)) (by rw [nI_clamp (by omega)]) ?_
        refine EV.if_ne (pc := 46) (tgt := 52) dX5_law_46 (by decide) (fun c46 => ?_) (fun c46 => ?_)
        · try simp only [Int32.lt_iff_toInt_lt, Int32.le_iff_toInt_le, ← Int32.toInt_inj, Int64.lt_iff_toInt_lt, Int64.le_iff_toInt_le, ← Int64.toInt_inj, Int32.toInt_toInt64, i_l0, i_l1, i_l2, i_l5, i_l19, i_m1, j_l0, j_l1, j_l5, i_l3, i_l4, i_l6, i_l7, i_l8, i_l9, i_l12, i_l16, i_l20, i_l60, i_l64, i_l100, i_l200, i_l304, i_l2000, i_l10000, i_l100000, i_l1000000, i_n1000000, i_n19, i_n101, j_l2, j_l3, j_l19, j_l304, j_l2000, j_l10000, j_l100000, j_l1000000, j_l60, j_l100, j_n1000000, j_n19, en] at c46
          refine EV.aload_n (pc := 52) dX5_law_52 rfl ?_
          refine EV.getf (pc := 53) dX5_law_53 fgX5_45 (by decide) hw.h34 rfl ?_
          refine EV.iload_n (pc := 56) dX5_law_56 rfl ?_
          refine EV.iconst (pc := 57) (v := 1) dX5_law_57 (by decide) ?_
          refine EV.zast (pc := 58) dX5_law_58 (by decide) hw.h46 (vp_in_nI (show k < 4 by omega) (by omega)) ?_
          refine EV.abs (Pr := MW G ad (S_lF (S_lB (S_lA (S_li s (va_up (s_li s) k true)) (va_up (s_lA s) k (m_jA z k))) (va_up (s_lB s) k (m_jB z k))) (va_up (s_lF s) k (m_jF z k))) z hm) (by have q := hw.set_liT k; rw [nI_clamp (by omega)]; exact q) (fun h hw => ?_)
          generalize ht1 : (S_lF (S_lB (S_lA (S_li s (va_up (s_li s) k true)) (va_up (s_lA s) k (m_jA z k))) (va_up (s_lB s) k (m_jB z k))) (va_up (s_lF s) k (m_jF z k))) = t1 at hw
          refine EV.aload_n (pc := 59) dX5_law_59 rfl ?_
          refine EV.getf (pc := 60) dX5_law_60 fgX5_48 (by decide) hw.h34 rfl ?_
          refine EV.iload_n (pc := 63) dX5_law_63 rfl ?_
          refine EV.iload_n (pc := 64) dX5_law_64 rfl ?_
          refine EV.iast (pc := 65) dX5_law_65 (by decide) hw.h47 (vp_in_nI (show k < 4 by omega) (by omega)) ?_
          refine EV.abs (Pr := MW G ad (S_lA t1 (upd (s_lA t1) k a)) (M_jA z (upd (m_jA z) k a)) hm) (by have q := hw.set_lA k a; rw [nI_clamp (by omega)]; exact q) (fun h hw => ?_)
          generalize ht2 : (S_lA t1 (upd (s_lA t1) k a)) = t2 at hw
          refine EV.aload_n (pc := 66) dX5_law_66 rfl ?_
          refine EV.getf (pc := 67) dX5_law_67 fgX5_51 (by decide) hw.h34 rfl ?_
          refine EV.iload_n (pc := 70) dX5_law_70 rfl ?_
          refine EV.iload_n (pc := 71) dX5_law_71 rfl ?_
          refine EV.iast (pc := 72) dX5_law_72 (by decide) hw.h48 (vp_in_nI (show k < 4 by omega) (by omega)) ?_
          refine EV.abs (Pr := MW G ad (S_lB t2 (upd (s_lB t2) k b)) (M_jB (M_jA z (upd (m_jA z) k a)) (upd (m_jB z) k b)) hm) (by have q := hw.set_lB k b; rw [nI_clamp (by omega)]; exact q) (fun h hw => ?_)
          generalize ht3 : (S_lB t2 (upd (s_lB t2) k b)) = t3 at hw
          refine EV.aload_n (pc := 73) dX5_law_73 rfl ?_
          refine EV.getf (pc := 74) dX5_law_74 fgX5_54 (by decide) hw.h34 rfl ?_
          refine EV.iload_n (pc := 77) dX5_law_77 rfl ?_
          refine EV.iconst (pc := 78) (v := 0) dX5_law_78 (by decide) ?_
          refine EV.iast (pc := 79) dX5_law_79 (by decide) hw.h49 (vp_in_nI (show k < 4 by omega) (by omega)) ?_
          refine EV.abs (Pr := MW G ad (S_lF t3 (upd (s_lF t3) k 0)) (M_jF (M_jB (M_jA z (upd (m_jA z) k a)) (upd (m_jB z) k b)) (upd (m_jF z) k 0)) hm) (by have q := hw.set_lF k 0; rw [nI_clamp (by omega)]; exact q) (fun h hw => ?_)
          rw [← ht3, ← ht2, ← ht1, law_st] at hw
          refine EV.iconst (pc := 80) (v := 1) dX5_law_80 (by decide) ?_
          refine EV.iret (pc := 81) dX5_law_81 trivial ?_
          exact PM.i (by unfold g_law; rw [if_pos (by omega), if_neg (by omega)]) hw
        · try simp only [Int32.lt_iff_toInt_lt, Int32.le_iff_toInt_le, ← Int32.toInt_inj, Int64.lt_iff_toInt_lt, Int64.le_iff_toInt_le, ← Int64.toInt_inj, Int32.toInt_toInt64, i_l0, i_l1, i_l2, i_l5, i_l19, i_m1, j_l0, j_l1, j_l5, i_l3, i_l4, i_l6, i_l7, i_l8, i_l9, i_l12, i_l16, i_l20, i_l60, i_l64, i_l100, i_l200, i_l304, i_l2000, i_l10000, i_l100000, i_l1000000, i_n1000000, i_n19, i_n101, j_l2, j_l3, j_l19, j_l304, j_l2000, j_l10000, j_l100000, j_l1000000, j_l60, j_l100, j_n1000000, j_n19, en] at c46
          refine EV.bipush (pc := 49) (v := -103) dX5_law_49 (by decide) ?_
          refine EV.iret (pc := 51) dX5_law_51 trivial ?_
          exact PM.i (by unfold g_law; rw [if_pos (by omega), if_pos (by omega)]) hw
      · replace c34 := b2i_F c34
        try simp only [Int32.lt_iff_toInt_lt, Int32.le_iff_toInt_le, ← Int32.toInt_inj, Int64.lt_iff_toInt_lt, Int64.le_iff_toInt_le, ← Int64.toInt_inj, Int32.toInt_toInt64, i_l0, i_l1, i_l2, i_l5, i_l19, i_m1, j_l0, j_l1, j_l5, i_l3, i_l4, i_l6, i_l7, i_l8, i_l9, i_l12, i_l16, i_l20, i_l60, i_l64, i_l100, i_l200, i_l304, i_l2000, i_l10000, i_l100000, i_l1000000, i_n1000000, i_n19, i_n101, j_l2, j_l3, j_l19, j_l304, j_l2000, j_l10000, j_l100000, j_l1000000, j_l60, j_l100, j_n1000000, j_n19, en] at c34
        refine EV.bipush (pc := 37) (v := -102) dX5_law_37 (by decide) ?_
        refine EV.iret (pc := 39) dX5_law_39 trivial ?_
        exact PM.i (by unfold g_law; rw [if_neg (by omega)]) hw
  · have e0 : f_law s c a b = (-101, s) := by unfold f_law; rw [if_neg hp]
    rw [e0]
    refine MC.of (by decide +kernel) (Nat.le_of_ble_eq_true rfl) (by dsimp only [linit, Nat.reduceSub, List.reduceReplicate] <;> rfl) ?_
    refine EV.aload_n (pc := 0) dX5_law_0 rfl ?_
    refine EV.iload_n (pc := 1) dX5_law_1 rfl ?_
    refine EV.callVR1 (pc := 2) (M' := M_X5_isComb) dX5_law_2 lkX5_117 okV_X5_isComb (n_isComb _ hw hcn) (by decide) rfl rfl (Nat.le_of_ble_eq_true rfl) (by decide) hw.h34 ?_
    refine EV.if_ne (pc := 5) (tgt := 11) dX5_law_5 (by decide) (fun q => absurd (b2i_0 hp).symm q) (fun _ => ?_)
    refine EV.bipush (pc := 8) (v := -101) dX5_law_8 (by decide) ?_
    exact EV.iret (pc := 10) dX5_law_10 trivial ⟨rfl, z, hw⟩

set_option maxHeartbeats 4000000 in
set_option maxRecDepth 100000 in
theorem q_wave {G : eG} {ad : Nat → Nat} {h : Nat → va_E} {s : St} {z : Zm} {hm : Nat → va_E} (hw : MW G ad s z hm h) (hI : Inv s) (c : Int32) (y : Int32)  : MC G M_X5_wave cX5_wave ad 54 [.ref (ad 34), .int c, .int y] h (PM G ad hm (.int (f_wave s c y)) s) := by
  have hcn : s_cn s ≤ 4 := hI.2.2.1
  by_cases hp : 0 ≤ c.toInt ∧ c.toInt < s_cn s
  · obtain ⟨k, rfl, ek, lk⟩ := i_nat hp.1
    have hk : k < s_cn s := by omega
    have hk4 : k < 4 := by omega
    refine MC.of (by decide +kernel) (Nat.le_of_ble_eq_true rfl) (by dsimp only [linit, Nat.reduceSub, List.reduceReplicate] <;> rfl) ?_
    refine EV.aload_n (pc := 0) dX5_wave_0 rfl ?_
    refine EV.iload_n (pc := 1) dX5_wave_1 rfl ?_
    refine EV.callVR1 (pc := 2) (M' := M_X5_isComb) dX5_wave_2 lkX5_117 okV_X5_isComb (n_isComb _ hw hcn) (by decide) rfl rfl (Nat.le_of_ble_eq_true rfl) (by decide) hw.h34 ?_
    refine EV.if_ne (pc := 5) (tgt := 11) dX5_wave_5 (by decide) (fun _ => ?_) (fun q => absurd q (fun q => b2i_F q hp))
    refine EV.iload_n (pc := 11) dX5_wave_11 rfl ?_
    refine EV.i2l (pc := 12) dX5_wave_12 ?_
    refine EV.lconst (pc := 13) (v := 0) dX5_wave_13 (by decide) ?_
    refine EV.ldc2 (pc := 14) dX5_wave_14 kcX5_206 ?_
    refine EV.callSR1 (pc := 17) (M' := M_X5_in) dX5_wave_17 lkX5_75 okS_X5_in (n_in _ _ _) (by decide) rfl rfl (Nat.le_of_ble_eq_true rfl) ?_
    refine EV.if_ne (pc := 20) (tgt := 26) dX5_wave_20 (by decide) (fun c20 => ?_) (fun c20 => ?_)
    · replace c20 := b2i_T c20
      try simp only [Int32.lt_iff_toInt_lt, Int32.le_iff_toInt_le, ← Int32.toInt_inj, Int64.lt_iff_toInt_lt, Int64.le_iff_toInt_le, ← Int64.toInt_inj, Int32.toInt_toInt64, i_l0, i_l1, i_l2, i_l5, i_l19, i_m1, j_l0, j_l1, j_l5, i_l3, i_l4, i_l6, i_l7, i_l8, i_l9, i_l12, i_l16, i_l20, i_l60, i_l64, i_l100, i_l200, i_l304, i_l2000, i_l10000, i_l100000, i_l1000000, i_n1000000, i_n19, i_n101, j_l2, j_l3, j_l19, j_l304, j_l2000, j_l10000, j_l100000, j_l1000000, j_l60, j_l100, j_n1000000, j_n19] at c20
      refine EV.aload_n (pc := 26) dX5_wave_26 rfl ?_
      refine EV.getf (pc := 27) dX5_wave_27 fgX5_45 (by decide) hw.h34 rfl ?_
      refine EV.iload_n (pc := 30) dX5_wave_30 rfl ?_
      refine EV.zald (pc := 31) dX5_wave_31 (by decide) hw.h46 (vp_in_nI (show k < 4 by omega) (by omega)) ?_
      refine EV.topi (y := b2i (s_li s k)) (by rw [nI_clamp (by omega)]) ?_
      refine EV.if_eq (pc := 32) (tgt := 57) dX5_wave_32 (by decide) (fun c32 => ?_) (fun c32 => ?_)
      · replace c32 := b2i_eq c32
        refine EV.ldc (pc := 57) dX5_wave_57 kcX5_209 ?_
        refine EV.iret (pc := 59) dX5_wave_59 trivial ?_
        exact PM.mk (by unfold f_wave; rw [if_pos hp, if_pos (by omega), nI_tn (by omega)]; first | (rw [if_pos c32, wv_eq (by omega) (by omega) (by omega), jI_i]) | (rw [if_neg (by simp [c32])])) rfl hw
      · replace c32 := b2i_ne c32
        have hl := hI.2.2.2.2.2.1 k hk4 c32
        have hj := hw.jk k hk4 c32
        refine EV.aload_n (pc := 35) dX5_wave_35 rfl ?_
        refine EV.getf (pc := 36) dX5_wave_36 fgX5_48 (by decide) hw.h34 rfl ?_
        refine EV.iload_n (pc := 39) dX5_wave_39 rfl ?_
        refine EV.iald (pc := 40) dX5_wave_40 (by decide) hw.h47 (vp_in_nI (show k < 4 by omega) (by omega)) ?_
        refine EV.topi (y := s_lA s k) (by rw [nI_clamp (by omega)]; exact hj.1) ?_
        refine EV.i2l (pc := 41) dX5_wave_41 ?_
        refine EV.aload_n (pc := 42) dX5_wave_42 rfl ?_
        refine EV.getf (pc := 43) dX5_wave_43 fgX5_51 (by decide) hw.h34 rfl ?_
        refine EV.iload_n (pc := 46) dX5_wave_46 rfl ?_
        refine EV.iald (pc := 47) dX5_wave_47 (by decide) hw.h48 (vp_in_nI (show k < 4 by omega) (by omega)) ?_
        refine EV.topi (y := s_lB s k) (by rw [nI_clamp (by omega)]; exact hj.2.1) ?_
        refine EV.i2l (pc := 48) dX5_wave_48 ?_
        refine EV.iload_n (pc := 49) dX5_wave_49 rfl ?_
        refine EV.callSR1 (pc := 50) (M' := M_X5_waveOf) dX5_wave_50 lkX5_176 okS_X5_waveOf (n_waveOf _ _ _) (by decide) rfl rfl (Nat.le_of_ble_eq_true rfl) ?_
        refine EV.l2i (pc := 53) dX5_wave_53 ?_
        refine EV.goto (pc := 54) (tgt := 59) dX5_wave_54 (by decide) ?_
        refine EV.iret (pc := 59) dX5_wave_59 trivial ?_
        exact PM.mk (by unfold f_wave; rw [if_pos hp, if_pos (by omega), nI_tn (by omega)]; first | (rw [if_pos c32, wv_eq (by omega) (by omega) (by omega), jI_i]) | (rw [if_neg (by simp [c32])])) rfl hw
    · replace c20 := b2i_F c20
      try simp only [Int32.lt_iff_toInt_lt, Int32.le_iff_toInt_le, ← Int32.toInt_inj, Int64.lt_iff_toInt_lt, Int64.le_iff_toInt_le, ← Int64.toInt_inj, Int32.toInt_toInt64, i_l0, i_l1, i_l2, i_l5, i_l19, i_m1, j_l0, j_l1, j_l5, i_l3, i_l4, i_l6, i_l7, i_l8, i_l9, i_l12, i_l16, i_l20, i_l60, i_l64, i_l100, i_l200, i_l304, i_l2000, i_l10000, i_l100000, i_l1000000, i_n1000000, i_n19, i_n101, j_l2, j_l3, j_l19, j_l304, j_l2000, j_l10000, j_l100000, j_l1000000, j_l60, j_l100, j_n1000000, j_n19] at c20
      refine EV.ldc (pc := 23) dX5_wave_23 kcX5_208 ?_
      refine EV.iret (pc := 25) dX5_wave_25 trivial ?_
      exact PM.mk (by unfold f_wave; rw [if_pos hp, if_neg (by omega)]) rfl hw
  · refine MC.of (by decide +kernel) (Nat.le_of_ble_eq_true rfl) (by dsimp only [linit, Nat.reduceSub, List.reduceReplicate] <;> rfl) ?_
    refine EV.aload_n (pc := 0) dX5_wave_0 rfl ?_
    refine EV.iload_n (pc := 1) dX5_wave_1 rfl ?_
    refine EV.callVR1 (pc := 2) (M' := M_X5_isComb) dX5_wave_2 lkX5_117 okV_X5_isComb (n_isComb _ hw hcn) (by decide) rfl rfl (Nat.le_of_ble_eq_true rfl) (by decide) hw.h34 ?_
    refine EV.if_ne (pc := 5) (tgt := 11) dX5_wave_5 (by decide) (fun q => absurd (b2i_0 hp).symm q) (fun _ => ?_)
    refine EV.ldc (pc := 8) dX5_wave_8 kcX5_205 ?_
    refine EV.iret (pc := 10) dX5_wave_10 trivial ?_
    exact PM.mk (by unfold f_wave; rw [if_neg hp]) rfl hw

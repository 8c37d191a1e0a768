theorem j_mod {y b : Int} (hy : 0 ≤ y ∧ y ≤ 100000000) (hb : 1 ≤ b ∧ b ≤ 100000) : jI y - jI y / jI b * jI b = jI (y % b) := by
  rw [jI_tdiv (by omega) (by omega) (by omega) (by omega), fl_pos hy.1, jI_mul, jI_sub]
  apply jI_b
  rw [Int.emod_def, Int.mul_comm]

set_option maxHeartbeats 4000000 in
set_option maxRecDepth 100000 in
theorem n_col {G : eG} {ad : Nat → Nat} {h : Nat → va_E}  {s : St} {z : Zm} {hm : Nat → va_E} (hw : MW G ad s z hm h) (k : Nat) (w : Int) (hk4 : k < 4) (hco : s_co s k ≤ 20) (hw1 : -10000000 ≤ w ∧ w ≤ 10000000) (hli : s_li s k = true) (hl : s_li s k = true → -1000000 ≤ (s_lA s k).toInt ∧ (s_lA s k).toInt ≤ 1000000 ∧ 1 ≤ (s_lB s k).toInt ∧ (s_lB s k).toInt ≤ 100000) : MC G M_X5_columnFor cX5_columnFor ad 54 [.ref (ad 34), .int (nI k), .long (jI w)] h (IS (some (.int (iI (colI (s_lA s k).toInt (s_lB s k).toInt (s_co s k) w)))) h) := by
  refine MC.of (by decide +kernel) (Nat.le_of_ble_eq_true rfl) (by dsimp only [linit, Nat.reduceSub, List.reduceReplicate] <;> rfl) ?_
  have hj := hw.jk k hk4 hli
  have ql := hl hli
  have ey := jI_toInt (a := w - (s_lA s k).toInt) (by omega) (by omega)
  have q1 := ediv_in (a := w - (s_lA s k).toInt) (g := (s_lB s k).toInt) (M := 20000000) (by omega) (by omega)
  have eq := jI_toInt (a := ((w - (s_lA s k).toInt) / (s_lB s k).toInt)) (by omega) (by omega)
  have q2 := Int.emod_nonneg (w - (s_lA s k).toInt) (show (s_lB s k).toInt ≠ 0 by omega)
  have q3 := Int.emod_lt_of_pos (w - (s_lA s k).toInt) (show 0 < (s_lB s k).toInt by omega)
  have er := jI_toInt (a := ((w - (s_lA s k).toInt) % (s_lB s k).toInt)) (by omega) (by omega)
  have el := jI_toInt (a := (s_co s k : Int) - 1) (by omega) (by omega)
  refine EV.lload_n (pc := 0) dX5_columnFor_0 rfl ?_
  refine EV.aload_n (pc := 1) dX5_columnFor_1 rfl ?_
  refine EV.getf (pc := 2) dX5_columnFor_2 fgX5_48 (by decide) hw.h34 rfl ?_
  refine EV.iload_n (pc := 5) dX5_columnFor_5 rfl ?_
  refine EV.iald (pc := 6) dX5_columnFor_6 (by decide) hw.h47 (vp_in_nI (show k < 4 by omega) (by omega)) ?_
  refine EV.topi (y := s_lA s k) (by rw [nI_clamp (by omega)]; exact hj.1) ?_
  refine EV.i2l (pc := 7) dX5_columnFor_7 ?_
  refine EV.topl (y := jI (s_lA s k).toInt) (i_l _) ?_
  refine EV.lsub (pc := 8) dX5_columnFor_8 ?_
  refine EV.topl (y := jI (w - (s_lA s k).toInt)) (jI_sub _ _) ?_
  refine EV.lstore (pc := 9) dX5_columnFor_9 (by decide) (by dsimp only [lst2, lno, lk] <;> rfl) ?_
  refine EV.lload (pc := 11) dX5_columnFor_11 rfl ?_
  refine EV.lconst (pc := 13) (v := 0) dX5_columnFor_13 (by decide) ?_
  refine EV.lcmp_ge (pc := 14) (tgt := 20) dX5_columnFor_14 dX5_columnFor_15 (by decide) (fun c14 => ?_) (fun c14 => ?_)
  · try simp only [Int32.lt_iff_toInt_lt, Int32.le_iff_toInt_le, ← Int32.toInt_inj, Int64.lt_iff_toInt_lt, Int64.le_iff_toInt_le, ← Int64.toInt_inj, Int32.toInt_toInt64, i_l0, i_l1, i_l2, i_l5, i_l19, i_m1, j_l0, j_l1, j_l5, i_l3, i_l4, i_l6, i_l7, i_l8, i_l9, i_l12, i_l16, i_l20, i_l60, i_l64, i_l100, i_l200, i_l304, i_l2000, i_l10000, i_l100000, i_l1000000, i_n1000000, i_n19, i_n101, j_l2, j_l3, j_l19, j_l304, j_l2000, j_l10000, j_l100000, j_l1000000, j_l60, j_l100, j_n1000000, j_n19, ey, eq, er, el] at c14
    refine EV.lload (pc := 20) dX5_columnFor_20 rfl ?_
    refine EV.aload_n (pc := 22) dX5_columnFor_22 rfl ?_
    refine EV.getf (pc := 23) dX5_columnFor_23 fgX5_51 (by decide) hw.h34 rfl ?_
    refine EV.iload_n (pc := 26) dX5_columnFor_26 rfl ?_
    refine EV.iald (pc := 27) dX5_columnFor_27 (by decide) hw.h48 (vp_in_nI (show k < 4 by omega) (by omega)) ?_
    refine EV.topi (y := s_lB s k) (by rw [nI_clamp (by omega)]; exact hj.2.1) ?_
    refine EV.i2l (pc := 28) dX5_columnFor_28 ?_
    refine EV.topl (y := jI (s_lB s k).toInt) (i_l _) ?_
    refine EV.ldiv (pc := 29) dX5_columnFor_29 (by rw [show (0 : Int64) = jI 0 from jI_lit 0, jI_eq (by omega) (by omega) (by omega) (by omega)]; omega) ?_
    refine EV.topl (y := jI ((w - (s_lA s k).toInt) / (s_lB s k).toInt)) (by rw [jI_tdiv (by omega) (by omega) (by omega) (by omega), fl_pos (by omega)]) ?_
    refine EV.lstore (pc := 30) dX5_columnFor_30 (by decide) (by dsimp only [lst2, lno, lk] <;> rfl) ?_
    refine EV.lload (pc := 32) dX5_columnFor_32 rfl ?_
    refine EV.aload_n (pc := 34) dX5_columnFor_34 rfl ?_
    refine EV.getf (pc := 35) dX5_columnFor_35 fgX5_51 (by decide) hw.h34 rfl ?_
    refine EV.iload_n (pc := 38) dX5_columnFor_38 rfl ?_
    refine EV.iald (pc := 39) dX5_columnFor_39 (by decide) hw.h48 (vp_in_nI (show k < 4 by omega) (by omega)) ?_
    refine EV.topi (y := s_lB s k) (by rw [nI_clamp (by omega)]; exact hj.2.1) ?_
    refine EV.i2l (pc := 40) dX5_columnFor_40 ?_
    refine EV.topl (y := jI (s_lB s k).toInt) (i_l _) ?_
    refine EV.lrem (pc := 41) dX5_columnFor_41 (by rw [show (0 : Int64) = jI 0 from jI_lit 0, jI_eq (by omega) (by omega) (by omega) (by omega)]; omega) ?_
    refine EV.topl (y := jI ((w - (s_lA s k).toInt) % (s_lB s k).toInt)) (j_mod (by omega) (by omega)) ?_
    refine EV.lconst (pc := 42) (v := 0) dX5_columnFor_42 (by decide) ?_
    refine EV.lcmp_ne (pc := 43) (tgt := 51) dX5_columnFor_43 dX5_columnFor_44 (by decide) (fun c43 => ?_) (fun c43 => ?_)
    · try simp only [Int32.lt_iff_toInt_lt, Int32.le_iff_toInt_le, ← Int32.toInt_inj, Int64.lt_iff_toInt_lt, Int64.le_iff_toInt_le, ← Int64.toInt_inj, Int32.toInt_toInt64, i_l0, i_l1, i_l2, i_l5, i_l19, i_m1, j_l0, j_l1, j_l5, i_l3, i_l4, i_l6, i_l7, i_l8, i_l9, i_l12, i_l16, i_l20, i_l60, i_l64, i_l100, i_l200, i_l304, i_l2000, i_l10000, i_l100000, i_l1000000, i_n1000000, i_n19, i_n101, j_l2, j_l3, j_l19, j_l304, j_l2000, j_l10000, j_l100000, j_l1000000, j_l60, j_l100, j_n1000000, j_n19, ey, eq, er, el] at c43
      refine EV.iconst (pc := 51) (v := 0) dX5_columnFor_51 (by decide) ?_
      refine EV.istore (pc := 52) dX5_columnFor_52 (by decide) (by dsimp only [lst1, lk] <;> rfl) ?_
      refine EV.aload_n (pc := 54) dX5_columnFor_54 rfl ?_
      refine EV.getf (pc := 55) dX5_columnFor_55 fgX5_38 (by decide) hw.h34 rfl ?_
      refine EV.iload_n (pc := 58) dX5_columnFor_58 rfl ?_
      refine EV.iald (pc := 59) dX5_columnFor_59 (by decide) hw.h44 (vp_in_nI (show k < 4 by omega) (by omega)) ?_
      refine EV.topi (y := nI (s_co s k)) (by rw [nI_clamp (by omega)]) ?_
      refine EV.iconst (pc := 60) (v := 1) dX5_columnFor_60 (by decide) ?_
      refine EV.isub (pc := 61) dX5_columnFor_61 ?_
      refine EV.i2l (pc := 62) dX5_columnFor_62 ?_
      refine EV.topl (y := jI ((s_co s k : Int) - 1)) (by rw [nI_iI, show (1 : Int32) = iI 1 from iI_lit 1, iI_sub, iI_l (by omega) (by omega)]) ?_
      refine EV.lstore (pc := 63) dX5_columnFor_63 (by decide) (by dsimp only [lst2, lno, lk] <;> rfl) ?_
      refine EV.lload (pc := 65) dX5_columnFor_65 rfl ?_
      refine EV.lload (pc := 67) dX5_columnFor_67 rfl ?_
      refine EV.lcmp_le (pc := 69) (tgt := 75) dX5_columnFor_69 dX5_columnFor_70 (by decide) (fun c69 => ?_) (fun c69 => ?_)
      · try simp only [Int32.lt_iff_toInt_lt, Int32.le_iff_toInt_le, ← Int32.toInt_inj, Int64.lt_iff_toInt_lt, Int64.le_iff_toInt_le, ← Int64.toInt_inj, Int32.toInt_toInt64, i_l0, i_l1, i_l2, i_l5, i_l19, i_m1, j_l0, j_l1, j_l5, i_l3, i_l4, i_l6, i_l7, i_l8, i_l9, i_l12, i_l16, i_l20, i_l60, i_l64, i_l100, i_l200, i_l304, i_l2000, i_l10000, i_l100000, i_l1000000, i_n1000000, i_n19, i_n101, j_l2, j_l3, j_l19, j_l304, j_l2000, j_l10000, j_l100000, j_l1000000, j_l60, j_l100, j_n1000000, j_n19, ey, eq, er, el] at c69
        refine EV.lload (pc := 75) dX5_columnFor_75 rfl ?_
        refine EV.lload (pc := 77) dX5_columnFor_77 rfl ?_
        refine EV.lcmp_lt (pc := 79) (tgt := 88) dX5_columnFor_79 dX5_columnFor_80 (by decide) (fun c79 => ?_) (fun c79 => ?_)
        · try simp only [Int32.lt_iff_toInt_lt, Int32.le_iff_toInt_le, ← Int32.toInt_inj, Int64.lt_iff_toInt_lt, Int64.le_iff_toInt_le, ← Int64.toInt_inj, Int32.toInt_toInt64, i_l0, i_l1, i_l2, i_l5, i_l19, i_m1, j_l0, j_l1, j_l5, i_l3, i_l4, i_l6, i_l7, i_l8, i_l9, i_l12, i_l16, i_l20, i_l60, i_l64, i_l100, i_l200, i_l304, i_l2000, i_l10000, i_l100000, i_l1000000, i_n1000000, i_n19, i_n101, j_l2, j_l3, j_l19, j_l304, j_l2000, j_l10000, j_l100000, j_l1000000, j_l60, j_l100, j_n1000000, j_n19, ey, eq, er, el] at c79
          refine EV.lload (pc := 88) dX5_columnFor_88 rfl ?_
          refine EV.l2i (pc := 90) dX5_columnFor_90 ?_
          refine EV.topi (y := iI ((w - (s_lA s k).toInt) / (s_lB s k).toInt)) (jI_i _) ?_
          refine EV.goto (pc := 91) (tgt := 95) dX5_columnFor_91 (by decide) ?_
          refine EV.iret (pc := 95) dX5_columnFor_95 trivial ?_
          refine ⟨congrArg (fun z => some (Value.int z)) ?_, rfl⟩
          unfold colI
          first
          | (exact absurd trivial c85)
          | (rw [if_pos (by omega)]; rfl)
          | (rw [if_neg (by omega), if_pos (by omega)]; rfl)
          | (rw [if_neg (by omega), if_neg (by omega), if_pos (by omega)])
          | (rw [if_neg (by omega), if_neg (by omega), if_neg (by omega)]; rfl)
        · try simp only [Int32.lt_iff_toInt_lt, Int32.le_iff_toInt_le, ← Int32.toInt_inj, Int64.lt_iff_toInt_lt, Int64.le_iff_toInt_le, ← Int64.toInt_inj, Int32.toInt_toInt64, i_l0, i_l1, i_l2, i_l5, i_l19, i_m1, j_l0, j_l1, j_l5, i_l3, i_l4, i_l6, i_l7, i_l8, i_l9, i_l12, i_l16, i_l20, i_l60, i_l64, i_l100, i_l200, i_l304, i_l2000, i_l10000, i_l100000, i_l1000000, i_n1000000, i_n19, i_n101, j_l2, j_l3, j_l19, j_l304, j_l2000, j_l10000, j_l100000, j_l1000000, j_l60, j_l100, j_n1000000, j_n19, ey, eq, er, el] at c79
          refine EV.iload (pc := 83) dX5_columnFor_83 rfl ?_
          refine EV.if_eq (pc := 85) (tgt := 94) dX5_columnFor_85 (by decide) (fun c85 => ?_) (fun c85 => ?_)
          · try simp only [Int32.lt_iff_toInt_lt, Int32.le_iff_toInt_le, ← Int32.toInt_inj, Int64.lt_iff_toInt_lt, Int64.le_iff_toInt_le, ← Int64.toInt_inj, Int32.toInt_toInt64, i_l0, i_l1, i_l2, i_l5, i_l19, i_m1, j_l0, j_l1, j_l5, i_l3, i_l4, i_l6, i_l7, i_l8, i_l9, i_l12, i_l16, i_l20, i_l60, i_l64, i_l100, i_l200, i_l304, i_l2000, i_l10000, i_l100000, i_l1000000, i_n1000000, i_n19, i_n101, j_l2, j_l3, j_l19, j_l304, j_l2000, j_l10000, j_l100000, j_l1000000, j_l60, j_l100, j_n1000000, j_n19, ey, eq, er, el] at c85
            refine EV.iconst (pc := 94) (v := -1) dX5_columnFor_94 (by decide) ?_
            refine EV.iret (pc := 95) dX5_columnFor_95 trivial ?_
            refine ⟨congrArg (fun z => some (Value.int z)) ?_, rfl⟩
            unfold colI
            first
            | (exact absurd trivial c85)
            | (rw [if_pos (by omega)]; rfl)
            | (rw [if_neg (by omega), if_pos (by omega)]; rfl)
            | (rw [if_neg (by omega), if_neg (by omega), if_pos (by omega)])
            | (rw [if_neg (by omega), if_neg (by omega), if_neg (by omega)]; rfl)
          · try simp only [Int32.lt_iff_toInt_lt, Int32.le_iff_toInt_le, ← Int32.toInt_inj, Int64.lt_iff_toInt_lt, Int64.le_iff_toInt_le, ← Int64.toInt_inj, Int32.toInt_toInt64, i_l0, i_l1, i_l2, i_l5, i_l19, i_m1, j_l0, j_l1, j_l5, i_l3, i_l4, i_l6, i_l7, i_l8, i_l9, i_l12, i_l16, i_l20, i_l60, i_l64, i_l100, i_l200, i_l304, i_l2000, i_l10000, i_l100000, i_l1000000, i_n1000000, i_n19, i_n101, j_l2, j_l3, j_l19, j_l304, j_l2000, j_l10000, j_l100000, j_l1000000, j_l60, j_l100, j_n1000000, j_n19, ey, eq, er, el] at c85
            refine EV.lload (pc := 88) dX5_columnFor_88 rfl ?_
            refine EV.l2i (pc := 90) dX5_columnFor_90 ?_
            refine EV.topi (y := iI ((w - (s_lA s k).toInt) / (s_lB s k).toInt)) (jI_i _) ?_
            refine EV.goto (pc := 91) (tgt := 95) dX5_columnFor_91 (by decide) ?_
            refine EV.iret (pc := 95) dX5_columnFor_95 trivial ?_
            refine ⟨congrArg (fun z => some (Value.int z)) ?_, rfl⟩
            unfold colI
            first
            | (exact absurd trivial c85)
            | (rw [if_pos (by omega)]; rfl)
            | (rw [if_neg (by omega), if_pos (by omega)]; rfl)
            | (rw [if_neg (by omega), if_neg (by omega), if_pos (by omega)])
            | (rw [if_neg (by omega), if_neg (by omega), if_neg (by omega)]; rfl)
      · try simp only [Int32.lt_iff_toInt_lt, Int32.le_iff_toInt_le, ← Int32.toInt_inj, Int64.lt_iff_toInt_lt, Int64.le_iff_toInt_le, ← Int64.toInt_inj, Int32.toInt_toInt64, i_l0, i_l1, i_l2, i_l5, i_l19, i_m1, j_l0, j_l1, j_l5, i_l3, i_l4, i_l6, i_l7, i_l8, i_l9, i_l12, i_l16, i_l20, i_l60, i_l64, i_l100, i_l200, i_l304, i_l2000, i_l10000, i_l100000, i_l1000000, i_n1000000, i_n19, i_n101, j_l2, j_l3, j_l19, j_l304, j_l2000, j_l10000, j_l100000, j_l1000000, j_l60, j_l100, j_n1000000, j_n19, ey, eq, er, el] at c69
        refine EV.iconst (pc := 73) (v := -1) dX5_columnFor_73 (by decide) ?_
        refine EV.iret (pc := 74) dX5_columnFor_74 trivial ?_
        refine ⟨congrArg (fun z => some (Value.int z)) ?_, rfl⟩
        unfold colI
        first
        | (exact absurd trivial c85)
        | (rw [if_pos (by omega)]; rfl)
        | (rw [if_neg (by omega), if_pos (by omega)]; rfl)
        | (rw [if_neg (by omega), if_neg (by omega), if_pos (by omega)])
        | (rw [if_neg (by omega), if_neg (by omega), if_neg (by omega)]; rfl)
    · try simp only [Int32.lt_iff_toInt_lt, Int32.le_iff_toInt_le, ← Int32.toInt_inj, Int64.lt_iff_toInt_lt, Int64.le_iff_toInt_le, ← Int64.toInt_inj, Int32.toInt_toInt64, i_l0, i_l1, i_l2, i_l5, i_l19, i_m1, j_l0, j_l1, j_l5, i_l3, i_l4, i_l6, i_l7, i_l8, i_l9, i_l12, i_l16, i_l20, i_l60, i_l64, i_l100, i_l200, i_l304, i_l2000, i_l10000, i_l100000, i_l1000000, i_n1000000, i_n19, i_n101, j_l2, j_l3, j_l19, j_l304, j_l2000, j_l10000, j_l100000, j_l1000000, j_l60, j_l100, j_n1000000, j_n19, ey, eq, er, el] at c43
      refine EV.iconst (pc := 47) (v := 1) dX5_columnFor_47 (by decide) ?_
      refine EV.goto (pc := 48) (tgt := 52) dX5_columnFor_48 (by decide) ?_
      refine EV.istore (pc := 52) dX5_columnFor_52 (by decide) (by dsimp only [lst1, lk] <;> rfl) ?_
      refine EV.aload_n (pc := 54) dX5_columnFor_54 rfl ?_
      refine EV.getf (pc := 55) dX5_columnFor_55 fgX5_38 (by decide) hw.h34 rfl ?_
      refine EV.iload_n (pc := 58) dX5_columnFor_58 rfl ?_
      refine EV.iald (pc := 59) dX5_columnFor_59 (by decide) hw.h44 (vp_in_nI (show k < 4 by omega) (by omega)) ?_
      refine EV.topi (y := nI (s_co s k)) (by rw [nI_clamp (by omega)]) ?_
      refine EV.iconst (pc := 60) (v := 1) dX5_columnFor_60 (by decide) ?_
      refine EV.isub (pc := 61) dX5_columnFor_61 ?_
      refine EV.i2l (pc := 62) dX5_columnFor_62 ?_
      refine EV.topl (y := jI ((s_co s k : Int) - 1)) (by rw [nI_iI, show (1 : Int32) = iI 1 from iI_lit 1, iI_sub, iI_l (by omega) (by omega)]) ?_
      refine EV.lstore (pc := 63) dX5_columnFor_63 (by decide) (by dsimp only [lst2, lno, lk] <;> rfl) ?_
      refine EV.lload (pc := 65) dX5_columnFor_65 rfl ?_
      refine EV.lload (pc := 67) dX5_columnFor_67 rfl ?_
      refine EV.lcmp_le (pc := 69) (tgt := 75) dX5_columnFor_69 dX5_columnFor_70 (by decide) (fun c69 => ?_) (fun c69 => ?_)
      · try simp only [Int32.lt_iff_toInt_lt, Int32.le_iff_toInt_le, ← Int32.toInt_inj, Int64.lt_iff_toInt_lt, Int64.le_iff_toInt_le, ← Int64.toInt_inj, Int32.toInt_toInt64, i_l0, i_l1, i_l2, i_l5, i_l19, i_m1, j_l0, j_l1, j_l5, i_l3, i_l4, i_l6, i_l7, i_l8, i_l9, i_l12, i_l16, i_l20, i_l60, i_l64, i_l100, i_l200, i_l304, i_l2000, i_l10000, i_l100000, i_l1000000, i_n1000000, i_n19, i_n101, j_l2, j_l3, j_l19, j_l304, j_l2000, j_l10000, j_l100000, j_l1000000, j_l60, j_l100, j_n1000000, j_n19, ey, eq, er, el] at c69
        refine EV.lload (pc := 75) dX5_columnFor_75 rfl ?_
        refine EV.lload (pc := 77) dX5_columnFor_77 rfl ?_
        refine EV.lcmp_lt (pc := 79) (tgt := 88) dX5_columnFor_79 dX5_columnFor_80 (by decide) (fun c79 => ?_) (fun c79 => ?_)
        · try simp only [Int32.lt_iff_toInt_lt, Int32.le_iff_toInt_le, ← Int32.toInt_inj, Int64.lt_iff_toInt_lt, Int64.le_iff_toInt_le, ← Int64.toInt_inj, Int32.toInt_toInt64, i_l0, i_l1, i_l2, i_l5, i_l19, i_m1, j_l0, j_l1, j_l5, i_l3, i_l4, i_l6, i_l7, i_l8, i_l9, i_l12, i_l16, i_l20, i_l60, i_l64, i_l100, i_l200, i_l304, i_l2000, i_l10000, i_l100000, i_l1000000, i_n1000000, i_n19, i_n101, j_l2, j_l3, j_l19, j_l304, j_l2000, j_l10000, j_l100000, j_l1000000, j_l60, j_l100, j_n1000000, j_n19, ey, eq, er, el] at c79
          refine EV.lload (pc := 88) dX5_columnFor_88 rfl ?_
          refine EV.l2i (pc := 90) dX5_columnFor_90 ?_
          refine EV.topi (y := iI ((w - (s_lA s k).toInt) / (s_lB s k).toInt)) (jI_i _) ?_
          refine EV.goto (pc := 91) (tgt := 95) dX5_columnFor_91 (by decide) ?_
          refine EV.iret (pc := 95) dX5_columnFor_95 trivial ?_
          refine ⟨congrArg (fun z => some (Value.int z)) ?_, rfl⟩
          unfold colI
          first
          | (exact absurd trivial c85)
          | (rw [if_pos (by omega)]; rfl)
          | (rw [if_neg (by omega), if_pos (by omega)]; rfl)
          | (rw [if_neg (by omega), if_neg (by omega), if_pos (by omega)])
          | (rw [if_neg (by omega), if_neg (by omega), if_neg (by omega)]; rfl)
        · try simp only [Int32.lt_iff_toInt_lt, Int32.le_iff_toInt_le, ← Int32.toInt_inj, Int64.lt_iff_toInt_lt, Int64.le_iff_toInt_le, ← Int64.toInt_inj, Int32.toInt_toInt64, i_l0, i_l1, i_l2, i_l5, i_l19, i_m1, j_l0, j_l1, j_l5, i_l3, i_l4, i_l6, i_l7, i_l8, i_l9, i_l12, i_l16, i_l20, i_l60, i_l64, i_l100, i_l200, i_l304, i_l2000, i_l10000, i_l100000, i_l1000000, i_n1000000, i_n19, i_n101, j_l2, j_l3, j_l19, j_l304, j_l2000, j_l10000, j_l100000, j_l1000000, j_l60, j_l100, j_n1000000, j_n19, ey, eq, er, el] at c79
          refine EV.iload (pc := 83) dX5_columnFor_83 rfl ?_
          refine EV.if_eq (pc := 85) (tgt := 94) dX5_columnFor_85 (by decide) (fun c85 => ?_) (fun c85 => ?_)
          · try simp only [Int32.lt_iff_toInt_lt, Int32.le_iff_toInt_le, ← Int32.toInt_inj, Int64.lt_iff_toInt_lt, Int64.le_iff_toInt_le, ← Int64.toInt_inj, Int32.toInt_toInt64, i_l0, i_l1, i_l2, i_l5, i_l19, i_m1, j_l0, j_l1, j_l5, i_l3, i_l4, i_l6, i_l7, i_l8, i_l9, i_l12, i_l16, i_l20, i_l60, i_l64, i_l100, i_l200, i_l304, i_l2000, i_l10000, i_l100000, i_l1000000, i_n1000000, i_n19, i_n101, j_l2, j_l3, j_l19, j_l304, j_l2000, j_l10000, j_l100000, j_l1000000, j_l60, j_l100, j_n1000000, j_n19, ey, eq, er, el] at c85
            refine EV.iconst (pc := 94) (v := -1) dX5_columnFor_94 (by decide) ?_
            refine EV.iret (pc := 95) dX5_columnFor_95 trivial ?_
            refine ⟨congrArg (fun z => some (Value.int z)) ?_, rfl⟩
            unfold colI
            first
            | (exact absurd trivial c85)
            | (rw [if_pos (by omega)]; rfl)
            | (rw [if_neg (by omega), if_pos (by omega)]; rfl)
            | (rw [if_neg (by omega), if_neg (by omega), if_pos (by omega)])
            | (rw [if_neg (by omega), if_neg (by omega), if_neg (by omega)]; rfl)
          · try simp only [Int32.lt_iff_toInt_lt, Int32.le_iff_toInt_le, ← Int32.toInt_inj, Int64.lt_iff_toInt_lt, Int64.le_iff_toInt_le, ← Int64.toInt_inj, Int32.toInt_toInt64, i_l0, i_l1, i_l2, i_l5, i_l19, i_m1, j_l0, j_l1, j_l5, i_l3, i_l4, i_l6, i_l7, i_l8, i_l9, i_l12, i_l16, i_l20, i_l60, i_l64, i_l100, i_l200, i_l304, i_l2000, i_l10000, i_l100000, i_l1000000, i_n1000000, i_n19, i_n101, j_l2, j_l3, j_l19, j_l304, j_l2000, j_l10000, j_l100000, j_l1000000, j_l60, j_l100, j_n1000000, j_n19, ey, eq, er, el] at c85
            refine EV.lload (pc := 88) dX5_columnFor_88 rfl ?_
            refine EV.l2i (pc := 90) dX5_columnFor_90 ?_
            refine EV.topi (y := iI ((w - (s_lA s k).toInt) / (s_lB s k).toInt)) (jI_i _) ?_
            refine EV.goto (pc := 91) (tgt := 95) dX5_columnFor_91 (by decide) ?_
            refine EV.iret (pc := 95) dX5_columnFor_95 trivial ?_
            refine ⟨congrArg (fun z => some (Value.int z)) ?_, rfl⟩
            unfold colI
            first
            | (exact absurd trivial c85)
            | (rw [if_pos (by omega)]; rfl)
            | (rw [if_neg (by omega), if_pos (by omega)]; rfl)
            | (rw [if_neg (by omega), if_neg (by omega), if_pos (by omega)])
            | (rw [if_neg (by omega), if_neg (by omega), if_neg (by omega)]; rfl)
      · try simp only [Int32.lt_iff_toInt_lt, Int32.le_iff_toInt_le, ← Int32.toInt_inj, Int64.lt_iff_toInt_lt, Int64.le_iff_toInt_le, ← Int64.toInt_inj, Int32.toInt_toInt64, i_l0, i_l1, i_l2, i_l5, i_l19, i_m1, j_l0, j_l1, j_l5, i_l3, i_l4, i_l6, i_l7, i_l8, i_l9, i_l12, i_l16, i_l20, i_l60, i_l64, i_l100, i_l200, i_l304, i_l2000, i_l10000, i_l100000, i_l1000000, i_n1000000, i_n19, i_n101, j_l2, j_l3, j_l19, j_l304, j_l2000, j_l10000, j_l100000, j_l1000000, j_l60, j_l100, j_n1000000, j_n19, ey, eq, er, el] at c69
        refine EV.iconst (pc := 73) (v := -1) dX5_columnFor_73 (by decide) ?_
        refine EV.iret (pc := 74) dX5_columnFor_74 trivial ?_
        refine ⟨congrArg (fun z => some (Value.int z)) ?_, rfl⟩
        unfold colI
        first
        | (exact absurd trivial c85)
        | (rw [if_pos (by omega)]; rfl)
        | (rw [if_neg (by omega), if_pos (by omega)]; rfl)
        | (rw [if_neg (by omega), if_neg (by omega), if_pos (by omega)])
        | (rw [if_neg (by omega), if_neg (by omega), if_neg (by omega)]; rfl)
  · try simp only [Int32.lt_iff_toInt_lt, Int32.le_iff_toInt_le, ← Int32.toInt_inj, Int64.lt_iff_toInt_lt, Int64.le_iff_toInt_le, ← Int64.toInt_inj, Int32.toInt_toInt64, i_l0, i_l1, i_l2, i_l5, i_l19, i_m1, j_l0, j_l1, j_l5, i_l3, i_l4, i_l6, i_l7, i_l8, i_l9, i_l12, i_l16, i_l20, i_l60, i_l64, i_l100, i_l200, i_l304, i_l2000, i_l10000, i_l100000, i_l1000000, i_n1000000, i_n19, i_n101, j_l2, j_l3, j_l19, j_l304, j_l2000, j_l10000, j_l100000, j_l1000000, j_l60, j_l100, j_n1000000, j_n19, ey, eq, er, el] at c14
    refine EV.iconst (pc := 18) (v := -1) dX5_columnFor_18 (by decide) ?_
    refine EV.iret (pc := 19) dX5_columnFor_19 trivial ?_
    refine ⟨congrArg (fun z => some (Value.int z)) ?_, rfl⟩
    unfold colI
    first
    | (exact absurd trivial c85)
    | (rw [if_pos (by omega)]; rfl)
    | (rw [if_neg (by omega), if_pos (by omega)]; rfl)
    | (rw [if_neg (by omega), if_neg (by omega), if_pos (by omega)])
    | (rw [if_neg (by omega), if_neg (by omega), if_neg (by omega)]; rfl)

set_option maxHeartbeats 4000000 in
set_option maxRecDepth 100000 in
theorem l_nji {G : eG} {ad : Nat → Nat} {h : Nat → va_E} {s : St} {z : Zm} {hm : Nat → va_E} (hw : MW G ad s z hm h) (g d : Int32) (K : Nat) (hw1 : -10000000 ≤ (g.toInt + d.toInt * (K : Int)) ∧ (g.toInt + d.toInt * (K : Int)) ≤ 10000000) (hK : K < 60) (hl : colOk s) (hcn : s_cn s ≤ 4) (hco : ∀ c, c < 4 → s_co s c ≤ 20) (hnm : ∀ c, c < 4 → ∀ x, x < 20 → s_nm s c x ≤ 700000) (v3 v4 : Option Value) (post : eP) (kx : ∀ v10 v11 v12 : Option Value, EV G M_X5_join cX5_join none ad 54 post 166 [some (.ref (ad 34)), some (.int g), some (.int d), v3, v4, some (.int (nI K)), some (.long (jI (jW s (g.toInt + d.toInt * (K : Int)) (s_cn s)).1)), none, some (.long (jI (jW s (g.toInt + d.toInt * (K : Int)) (s_cn s)).2)), none, v10, v11, v12, none] [] h) : ∀ (n i : Nat) (v11 v12 : Option Value), i + n = s_cn s → EV G M_X5_join cX5_join none ad 54 post 78 [some (.ref (ad 34)), some (.int g), some (.int d), v3, v4, some (.int (nI K)), some (.long (jI (jW s (g.toInt + d.toInt * (K : Int)) i).1)), none, some (.long (jI (jW s (g.toInt + d.toInt * (K : Int)) i).2)), none, some (.int (nI i)), v11, v12, none] [] h := by
  intro n
  induction n with
  | zero =>
    intro i v11 v12 hi
    have ei : i = s_cn s := by omega
    subst ei
    refine EV.iload (pc := 78) dX5_join_78 rfl ?_
    refine EV.aload_n (pc := 80) dX5_join_80 rfl ?_
    refine EV.getf (pc := 81) dX5_join_81 fgX5_79 (by decide) hw.h34 rfl ?_
    refine EV.icmp_ge (pc := 84) (tgt := 166) dX5_join_84 (by decide) (fun _ => ?_) (fun q => absurd ((nI_leI (a := s_cn s) (b := s_cn s) (by omega) (by omega)).mpr (Nat.le_refl _)) q)
    exact kx _ _ _
  | succ n ih =>
    intro i v11 v12 hi
    have hi2 : i < s_cn s := by omega
    have q0 := hco i (by omega)
    have q1 := colS_in (w := (g.toInt + d.toInt * (K : Int))) hl (show i < 4 by omega) q0
    have q2 := jW_in (w := (g.toInt + d.toInt * (K : Int))) hl hcn hco hnm i (by omega)
    refine EV.iload (pc := 78) dX5_join_78 rfl ?_
    refine EV.aload_n (pc := 80) dX5_join_80 rfl ?_
    refine EV.getf (pc := 81) dX5_join_81 fgX5_79 (by decide) hw.h34 rfl ?_
    refine EV.icmp_ge (pc := 84) (tgt := 166) dX5_join_84 (by decide) (fun q => absurd q (fun z => absurd ((nI_leI (a := s_cn s) (b := i) (by omega) (by omega)).mp z) (by omega))) (fun _ => ?_)
    refine EV.aload_n (pc := 87) dX5_join_87 rfl ?_
    refine EV.getf (pc := 88) dX5_join_88 fgX5_45 (by decide) hw.h34 rfl ?_
    refine EV.iload (pc := 91) dX5_join_91 rfl ?_
    refine EV.zald (pc := 93) dX5_join_93 (by decide) hw.h46 (vp_in_nI (show i < 4 by omega) (by omega)) ?_
    refine EV.topi (y := b2i (s_li s i)) (by rw [nI_clamp (by omega)]) ?_
    refine EV.if_eq (pc := 94) (tgt := 115) dX5_join_94 (by decide) (fun c94 => ?_) (fun c94 => ?_)
    · replace c94 := b2i_eq c94
      refine EV.iconst (pc := 115) (v := -1) dX5_join_115 (by decide) ?_
      refine EV.topi (y := iI (colS s i (g.toInt + d.toInt * (K : Int)))) (by unfold colS; rw [if_neg (by rw [c94]; simp)]; rfl) ?_
      refine EV.istore (pc := 116) dX5_join_116 (by decide) (by dsimp only [lst1, lk] <;> rfl) ?_
      refine EV.iload (pc := 118) dX5_join_118 rfl ?_
      refine EV.iconst (pc := 120) (v := -1) dX5_join_120 (by decide) ?_
      refine EV.icmp_eq (pc := 121) (tgt := 160) dX5_join_121 (by decide) (fun c121 => ?_) (fun c121 => ?_)
      · refine EV.iinc (pc := 160) dX5_join_160 (by decide) rfl (by first | exact nI_inc _ | rfl) (by dsimp only [lst1, lk] <;> rfl) ?_
        refine EV.goto (pc := 163) (tgt := 78) dX5_join_163 (by decide) ?_
        first
        | (have q4 := q3; refine EV.eq rfl ?_ rfl rfl (ih (i + 1) (some (.int (iI (colS s i (g.toInt + d.toInt * (K : Int)))))) (some (.long (jI (s_nm s i (colS s i (g.toInt + d.toInt * (K : Int))).toNat : Int)))) (by omega)); simp only [jW]; rw [if_neg c121] <;> rfl)
        | (rw [show (-1 : Int32) = iI (-1) from rfl, iI_eq (by omega) (by omega) (by omega) (by omega)] at c121; refine EV.eq rfl ?_ rfl rfl (ih (i + 1) (some (.int (iI (colS s i (g.toInt + d.toInt * (K : Int)))))) v12 (by omega)); simp only [jW]; rw [if_pos c121] <;> rfl)
      · rw [show (-1 : Int32) = iI (-1) from rfl, iI_eq (by omega) (by omega) (by omega) (by omega)] at c121
        have q3 := hnm i (by omega) (colS s i (g.toInt + d.toInt * (K : Int))).toNat (by omega)
        refine EV.aload_n (pc := 124) dX5_join_124 rfl ?_
        refine EV.getf (pc := 125) dX5_join_125 fgX5_41 (by decide) hw.h34 rfl ?_
        refine EV.bipush (pc := 128) (v := 20) dX5_join_128 (by decide) ?_
        refine EV.iload (pc := 130) dX5_join_130 rfl ?_
        refine EV.imul (pc := 132) dX5_join_132 ?_
        refine EV.iload (pc := 133) dX5_join_133 rfl ?_
        refine EV.iadd (pc := 135) dX5_join_135 ?_
        refine EV.topi (y := nI (20 * i + (colS s i (g.toInt + d.toInt * (K : Int))).toNat)) (by rw [show iI (colS s i (g.toInt + d.toInt * (K : Int))) = nI (colS s i (g.toInt + d.toInt * (K : Int))).toNat by rw [nI_iI, Int.toNat_of_nonneg (by omega)], ix2]) ?_
        refine EV.lald (pc := 136) dX5_join_136 (by decide) hw.h45 (vp_in_nI (show 20 * i + (colS s i (g.toInt + d.toInt * (K : Int))).toNat < 80 by omega) (by omega)) ?_
        refine EV.topl (y := jI (s_nm s i (colS s i (g.toInt + d.toInt * (K : Int))).toNat : Int)) (by rw [nI_clamp (by omega), ← lN_jI]; exact congrArg lN (n_rd2 (f := s_nm s) (by omega))) ?_
        refine EV.lstore (pc := 137) dX5_join_137 (by decide) (by dsimp only [lst2, lno, lk] <;> rfl) ?_
        refine EV.lload (pc := 139) dX5_join_139 rfl ?_
        refine EV.lload (pc := 141) dX5_join_141 rfl ?_
        refine EV.lload (pc := 143) dX5_join_143 rfl ?_
        refine EV.lconst (pc := 145) (v := 1) dX5_join_145 (by decide) ?_
        refine EV.ladd (pc := 146) dX5_join_146 ?_
        refine EV.topl (y := jI ((s_nm s i (colS s i (g.toInt + d.toInt * (K : Int))).toNat : Int) + 1)) (by rw [show (1 : Int64) = jI 1 from jI_lit 1, jI_add]) ?_
        refine EV.lmul (pc := 147) dX5_join_147 ?_
        refine EV.ladd (pc := 148) dX5_join_148 ?_
        refine EV.topl (y := jI ((jW s (g.toInt + d.toInt * (K : Int)) i).1 + (s_nm s i (colS s i (g.toInt + d.toInt * (K : Int))).toNat : Int) * ((s_nm s i (colS s i (g.toInt + d.toInt * (K : Int))).toNat : Int) + 1))) (by rw [jI_mul, jI_add]) ?_
        refine EV.lstore (pc := 149) dX5_join_149 (by decide) (by dsimp only [lst2, lno, lk] <;> rfl) ?_
        refine EV.lload (pc := 151) dX5_join_151 rfl ?_
        refine EV.lload (pc := 153) dX5_join_153 rfl ?_
        refine EV.lconst (pc := 155) (v := 1) dX5_join_155 (by decide) ?_
        refine EV.ladd (pc := 156) dX5_join_156 ?_
        refine EV.topl (y := jI ((s_nm s i (colS s i (g.toInt + d.toInt * (K : Int))).toNat : Int) + 1)) (by rw [show (1 : Int64) = jI 1 from jI_lit 1, jI_add]) ?_
        refine EV.ladd (pc := 157) dX5_join_157 ?_
        refine EV.topl (y := jI ((jW s (g.toInt + d.toInt * (K : Int)) i).2 + ((s_nm s i (colS s i (g.toInt + d.toInt * (K : Int))).toNat : Int) + 1))) (jI_add _ _) ?_
        refine EV.lstore (pc := 158) dX5_join_158 (by decide) (by dsimp only [lst2, lno, lk] <;> rfl) ?_
        refine EV.iinc (pc := 160) dX5_join_160 (by decide) rfl (by first | exact nI_inc _ | rfl) (by dsimp only [lst1, lk] <;> rfl) ?_
        refine EV.goto (pc := 163) (tgt := 78) dX5_join_163 (by decide) ?_
        first
        | (have q4 := q3; refine EV.eq rfl ?_ rfl rfl (ih (i + 1) (some (.int (iI (colS s i (g.toInt + d.toInt * (K : Int)))))) (some (.long (jI (s_nm s i (colS s i (g.toInt + d.toInt * (K : Int))).toNat : Int)))) (by omega)); simp only [jW]; rw [if_neg c121] <;> rfl)
        | (rw [show (-1 : Int32) = iI (-1) from rfl, iI_eq (by omega) (by omega) (by omega) (by omega)] at c121; refine EV.eq rfl ?_ rfl rfl (ih (i + 1) (some (.int (iI (colS s i (g.toInt + d.toInt * (K : Int)))))) v12 (by omega)); simp only [jW]; rw [if_pos c121] <;> rfl)
    · replace c94 := b2i_ne c94
      refine EV.aload_n (pc := 97) dX5_join_97 rfl ?_
      refine EV.iload (pc := 98) dX5_join_98 rfl ?_
      refine EV.iload_n (pc := 100) dX5_join_100 rfl ?_
      refine EV.i2l (pc := 101) dX5_join_101 ?_
      refine EV.topl (y := jI g.toInt) (i_l _) ?_
      refine EV.iload_n (pc := 102) dX5_join_102 rfl ?_
      refine EV.i2l (pc := 103) dX5_join_103 ?_
      refine EV.topl (y := jI d.toInt) (i_l _) ?_
      refine EV.iload (pc := 104) dX5_join_104 rfl ?_
      refine EV.i2l (pc := 106) dX5_join_106 ?_
      refine EV.topl (y := jI (K : Int)) (by rw [nI_L (by omega), lN_jI]) ?_
      refine EV.lmul (pc := 107) dX5_join_107 ?_
      refine EV.topl (y := jI (d.toInt * (K : Int))) (jI_mul _ _) ?_
      refine EV.ladd (pc := 108) dX5_join_108 ?_
      refine EV.topl (y := jI (g.toInt + d.toInt * (K : Int))) (jI_add _ _) ?_
      refine EV.callVR1 (pc := 109) (M' := M_X5_columnFor) dX5_join_109 lkX5_218 okV_X5_columnFor (n_col hw i (g.toInt + d.toInt * (K : Int)) (by omega) q0 hw1 c94 (hl i (by omega))) (by decide) rfl rfl (Nat.le_of_ble_eq_true rfl) (by decide) hw.h34 ?_
      refine EV.topi (y := iI (colS s i (g.toInt + d.toInt * (K : Int)))) (by unfold colS; rw [if_pos c94]) ?_
      refine EV.goto (pc := 112) (tgt := 116) dX5_join_112 (by decide) ?_
      refine EV.istore (pc := 116) dX5_join_116 (by decide) (by dsimp only [lst1, lk] <;> rfl) ?_
      refine EV.iload (pc := 118) dX5_join_118 rfl ?_
      refine EV.iconst (pc := 120) (v := -1) dX5_join_120 (by decide) ?_
      refine EV.icmp_eq (pc := 121) (tgt := 160) dX5_join_121 (by decide) (fun c121 => ?_) (fun c121 => ?_)
      · refine EV.iinc (pc := 160) dX5_join_160 (by decide) rfl (by first | exact nI_inc _ | rfl) (by dsimp only [lst1, lk] <;> rfl) ?_
        refine EV.goto (pc := 163) (tgt := 78) dX5_join_163 (by decide) ?_
        first
        | (have q4 := q3; refine EV.eq rfl ?_ rfl rfl (ih (i + 1) (some (.int (iI (colS s i (g.toInt + d.toInt * (K : Int)))))) (some (.long (jI (s_nm s i (colS s i (g.toInt + d.toInt * (K : Int))).toNat : Int)))) (by omega)); simp only [jW]; rw [if_neg c121] <;> rfl)
        | (rw [show (-1 : Int32) = iI (-1) from rfl, iI_eq (by omega) (by omega) (by omega) (by omega)] at c121; refine EV.eq rfl ?_ rfl rfl (ih (i + 1) (some (.int (iI (colS s i (g.toInt + d.toInt * (K : Int)))))) v12 (by omega)); simp only [jW]; rw [if_pos c121] <;> rfl)
      · rw [show (-1 : Int32) = iI (-1) from rfl, iI_eq (by omega) (by omega) (by omega) (by omega)] at c121
        have q3 := hnm i (by omega) (colS s i (g.toInt + d.toInt * (K : Int))).toNat (by omega)
        refine EV.aload_n (pc := 124) dX5_join_124 rfl ?_
        refine EV.getf (pc := 125) dX5_join_125 fgX5_41 (by decide) hw.h34 rfl ?_
        refine EV.bipush (pc := 128) (v := 20) dX5_join_128 (by decide) ?_
        refine EV.iload (pc := 130) dX5_join_130 rfl ?_
        refine EV.imul (pc := 132) dX5_join_132 ?_
        refine EV.iload (pc := 133) dX5_join_133 rfl ?_
        refine EV.iadd (pc := 135) dX5_join_135 ?_
        refine EV.topi (y := nI (20 * i + (colS s i (g.toInt + d.toInt * (K : Int))).toNat)) (by rw [show iI (colS s i (g.toInt + d.toInt * (K : Int))) = nI (colS s i (g.toInt + d.toInt * (K : Int))).toNat by rw [nI_iI, Int.toNat_of_nonneg (by omega)], ix2]) ?_
        refine EV.lald (pc := 136) dX5_join_136 (by decide) hw.h45 (vp_in_nI (show 20 * i + (colS s i (g.toInt + d.toInt * (K : Int))).toNat < 80 by omega) (by omega)) ?_
        refine EV.topl (y := jI (s_nm s i (colS s i (g.toInt + d.toInt * (K : Int))).toNat : Int)) (by rw [nI_clamp (by omega), ← lN_jI]; exact congrArg lN (n_rd2 (f := s_nm s) (by omega))) ?_
        refine EV.lstore (pc := 137) dX5_join_137 (by decide) (by dsimp only [lst2, lno, lk] <;> rfl) ?_
        refine EV.lload (pc := 139) dX5_join_139 rfl ?_
        refine EV.lload (pc := 141) dX5_join_141 rfl ?_
        refine EV.lload (pc := 143) dX5_join_143 rfl ?_
        refine EV.lconst (pc := 145) (v := 1) dX5_join_145 (by decide) ?_
        refine EV.ladd (pc := 146) dX5_join_146 ?_
        refine EV.topl (y := jI ((s_nm s i (colS s i (g.toInt + d.toInt * (K : Int))).toNat : Int) + 1)) (by rw [show (1 : Int64) = jI 1 from jI_lit 1, jI_add]) ?_
        refine EV.lmul (pc := 147) dX5_join_147 ?_
        refine EV.ladd (pc := 148) dX5_join_148 ?_
        refine EV.topl (y := jI ((jW s (g.toInt + d.toInt * (K : Int)) i).1 + (s_nm s i (colS s i (g.toInt + d.toInt * (K : Int))).toNat : Int) * ((s_nm s i (colS s i (g.toInt + d.toInt * (K : Int))).toNat : Int) + 1))) (by rw [jI_mul, jI_add]) ?_
        refine EV.lstore (pc := 149) dX5_join_149 (by decide) (by dsimp only [lst2, lno, lk] <;> rfl) ?_
        refine EV.lload (pc := 151) dX5_join_151 rfl ?_
        refine EV.lload (pc := 153) dX5_join_153 rfl ?_
        refine EV.lconst (pc := 155) (v := 1) dX5_join_155 (by decide) ?_
        refine EV.ladd (pc := 156) dX5_join_156 ?_
        refine EV.topl (y := jI ((s_nm s i (colS s i (g.toInt + d.toInt * (K : Int))).toNat : Int) + 1)) (by rw [show (1 : Int64) = jI 1 from jI_lit 1, jI_add]) ?_
        refine EV.ladd (pc := 157) dX5_join_157 ?_
        refine EV.topl (y := jI ((jW s (g.toInt + d.toInt * (K : Int)) i).2 + ((s_nm s i (colS s i (g.toInt + d.toInt * (K : Int))).toNat : Int) + 1))) (jI_add _ _) ?_
        refine EV.lstore (pc := 158) dX5_join_158 (by decide) (by dsimp only [lst2, lno, lk] <;> rfl) ?_
        refine EV.iinc (pc := 160) dX5_join_160 (by decide) rfl (by first | exact nI_inc _ | rfl) (by dsimp only [lst1, lk] <;> rfl) ?_
        refine EV.goto (pc := 163) (tgt := 78) dX5_join_163 (by decide) ?_
        first
        | (have q4 := q3; refine EV.eq rfl ?_ rfl rfl (ih (i + 1) (some (.int (iI (colS s i (g.toInt + d.toInt * (K : Int)))))) (some (.long (jI (s_nm s i (colS s i (g.toInt + d.toInt * (K : Int))).toNat : Int)))) (by omega)); simp only [jW]; rw [if_neg c121] <;> rfl)
        | (rw [show (-1 : Int32) = iI (-1) from rfl, iI_eq (by omega) (by omega) (by omega) (by omega)] at c121; refine EV.eq rfl ?_ rfl rfl (ih (i + 1) (some (.int (iI (colS s i (g.toInt + d.toInt * (K : Int)))))) v12 (by omega)); simp only [jW]; rw [if_pos c121] <;> rfl)

set_option maxHeartbeats 4000000 in
set_option maxRecDepth 100000 in
theorem l_njx {G : eG} {ad : Nat → Nat} {h : Nat → va_E} {s : St} {z : Zm} {hm : Nat → va_E} (hw : MW G ad s z hm h) (g d : Int32) (K : Nat) (hw1 : -10000000 ≤ (g.toInt + d.toInt * (K : Int)) ∧ (g.toInt + d.toInt * (K : Int)) ≤ 10000000) (hK : K < 60) (hl : colOk s) (hcn : s_cn s ≤ 4) (hco : ∀ c, c < 4 → s_co s c ≤ 20) (hnm : ∀ c, c < 4 → ∀ x, x < 20 → s_nm s c x ≤ 700000) (N : Nat) (c3 : Int32) (v10 v11 v12 : Option Value) (post : eP) (kx : ∀ (h : Nat → va_E) (v6 v8 : Int64) (v10 v11 v12 : Option Value), MW G ad (S_gr s (vp_updL (s_gr s) K (jI (jV s (g.toInt + d.toInt * (K : Int)))))) z hm h → EV G M_X5_join cX5_join none ad 54 post 63 [some (.ref (ad 34)), some (.int g), some (.int d), some (.int c3), some (.int (nI (N + if 0 < (jW s (g.toInt + d.toInt * (K : Int)) (s_cn s)).2 then 1 else 0))), some (.int (nI (K + 1))), some (.long v6), none, some (.long v8), none, v10, v11, v12, none] [] h) : EV G M_X5_join cX5_join none ad 54 post 166 [some (.ref (ad 34)), some (.int g), some (.int d), some (.int c3), some (.int (nI N)), some (.int (nI K)), some (.long (jI (jW s (g.toInt + d.toInt * (K : Int)) (s_cn s)).1)), none, some (.long (jI (jW s (g.toInt + d.toInt * (K : Int)) (s_cn s)).2)), none, v10, v11, v12, none] [] h := by
  have q1 := jW_in (w := (g.toInt + d.toInt * (K : Int))) hl hcn hco hnm (s_cn s) hcn
  have e2 := jI_toInt (a := (jW s (g.toInt + d.toInt * (K : Int)) (s_cn s)).2) (by omega) (by omega)
  refine EV.aload_n (pc := 166) dX5_join_166 rfl ?_
  refine EV.getf (pc := 167) dX5_join_167 fgX5_60 (by decide) hw.h34 rfl ?_
  refine EV.iload (pc := 170) dX5_join_170 rfl ?_
  refine EV.lload (pc := 172) dX5_join_172 rfl ?_
  refine EV.lconst (pc := 174) (v := 0) dX5_join_174 (by decide) ?_
  refine EV.lcmp_ne (pc := 175) (tgt := 183) dX5_join_175 dX5_join_176 (by decide) (fun c175 => ?_) (fun c175 => ?_)
  · try simp only [← Int64.toInt_inj, j_l0, e2] at c175
    refine EV.lload (pc := 183) dX5_join_183 rfl ?_
    refine EV.lload (pc := 185) dX5_join_185 rfl ?_
    refine EV.ldiv (pc := 187) dX5_join_187 (by rw [← Int64.toInt_inj, j_l0, e2]; omega) ?_
    refine EV.topl (y := jI (jV s (g.toInt + d.toInt * (K : Int)))) (by unfold jV; rw [if_pos (by omega), jI_tdiv (by omega) (by omega) (by omega) (by omega), fl_pos (by omega)]) ?_
    refine EV.last (pc := 188) dX5_join_188 (by decide) hw.h51 (vp_in_nI (show K < 60 by omega) (by omega)) ?_
    refine EV.abs (Pr := MW G ad (S_gr s (vp_updL (s_gr s) K (jI (jV s (g.toInt + d.toInt * (K : Int)))))) z hm) (by have q := hw.set_gr K (jI (jV s (g.toInt + d.toInt * (K : Int)))); rw [nI_clamp (by omega)]; exact q) (fun h hw => ?_)
    refine EV.iload (pc := 189) dX5_join_189 rfl ?_
    refine EV.lload (pc := 191) dX5_join_191 rfl ?_
    refine EV.lconst (pc := 193) (v := 0) dX5_join_193 (by decide) ?_
    refine EV.lcmp_ne (pc := 194) (tgt := 202) dX5_join_194 dX5_join_195 (by decide) (fun c194 => ?_) (fun c194 => ?_)
    · try simp only [← Int64.toInt_inj, j_l0, e2] at c194
      refine EV.iconst (pc := 202) (v := 1) dX5_join_202 (by decide) ?_
      refine EV.iadd (pc := 203) dX5_join_203 ?_
      refine EV.topi (y := nI (N + if 0 < (jW s (g.toInt + d.toInt * (K : Int)) (s_cn s)).2 then 1 else 0)) (by first | (rw [if_pos (by omega), nI_p1]) | (rw [if_neg (by omega), Int32.add_zero, Nat.add_zero])) ?_
      refine EV.istore (pc := 204) dX5_join_204 (by decide) (by dsimp only [lst1, lk] <;> rfl) ?_
      refine EV.iinc (pc := 206) dX5_join_206 (by decide) rfl (by first | exact nI_inc _ | rfl) (by dsimp only [lst1, lk] <;> rfl) ?_
      refine EV.goto (pc := 209) (tgt := 63) dX5_join_209 (by decide) ?_
      exact kx h _ _ _ _ _ hw
    · try simp only [← Int64.toInt_inj, j_l0, e2] at c194
      refine EV.iconst (pc := 198) (v := 0) dX5_join_198 (by decide) ?_
      refine EV.goto (pc := 199) (tgt := 203) dX5_join_199 (by decide) ?_
      refine EV.iadd (pc := 203) dX5_join_203 ?_
      refine EV.topi (y := nI (N + if 0 < (jW s (g.toInt + d.toInt * (K : Int)) (s_cn s)).2 then 1 else 0)) (by first | (rw [if_pos (by omega), nI_p1]) | (rw [if_neg (by omega), Int32.add_zero, Nat.add_zero])) ?_
      refine EV.istore (pc := 204) dX5_join_204 (by decide) (by dsimp only [lst1, lk] <;> rfl) ?_
      refine EV.iinc (pc := 206) dX5_join_206 (by decide) rfl (by first | exact nI_inc _ | rfl) (by dsimp only [lst1, lk] <;> rfl) ?_
      refine EV.goto (pc := 209) (tgt := 63) dX5_join_209 (by decide) ?_
      exact kx h _ _ _ _ _ hw
  · try simp only [← Int64.toInt_inj, j_l0, e2] at c175
    refine EV.lconst (pc := 179) (v := 0) dX5_join_179 (by decide) ?_
    refine EV.topl (y := jI (jV s (g.toInt + d.toInt * (K : Int)))) (by unfold jV; rw [if_neg (by omega)]; rfl) ?_
    refine EV.goto (pc := 180) (tgt := 188) dX5_join_180 (by decide) ?_
    refine EV.last (pc := 188) dX5_join_188 (by decide) hw.h51 (vp_in_nI (show K < 60 by omega) (by omega)) ?_
    refine EV.abs (Pr := MW G ad (S_gr s (vp_updL (s_gr s) K (jI (jV s (g.toInt + d.toInt * (K : Int)))))) z hm) (by have q := hw.set_gr K (jI (jV s (g.toInt + d.toInt * (K : Int)))); rw [nI_clamp (by omega)]; exact q) (fun h hw => ?_)
    refine EV.iload (pc := 189) dX5_join_189 rfl ?_
    refine EV.lload (pc := 191) dX5_join_191 rfl ?_
    refine EV.lconst (pc := 193) (v := 0) dX5_join_193 (by decide) ?_
    refine EV.lcmp_ne (pc := 194) (tgt := 202) dX5_join_194 dX5_join_195 (by decide) (fun c194 => ?_) (fun c194 => ?_)
    · try simp only [← Int64.toInt_inj, j_l0, e2] at c194
      refine EV.iconst (pc := 202) (v := 1) dX5_join_202 (by decide) ?_
      refine EV.iadd (pc := 203) dX5_join_203 ?_
      refine EV.topi (y := nI (N + if 0 < (jW s (g.toInt + d.toInt * (K : Int)) (s_cn s)).2 then 1 else 0)) (by first | (rw [if_pos (by omega), nI_p1]) | (rw [if_neg (by omega), Int32.add_zero, Nat.add_zero])) ?_
      refine EV.istore (pc := 204) dX5_join_204 (by decide) (by dsimp only [lst1, lk] <;> rfl) ?_
      refine EV.iinc (pc := 206) dX5_join_206 (by decide) rfl (by first | exact nI_inc _ | rfl) (by dsimp only [lst1, lk] <;> rfl) ?_
      refine EV.goto (pc := 209) (tgt := 63) dX5_join_209 (by decide) ?_
      exact kx h _ _ _ _ _ hw
    · try simp only [← Int64.toInt_inj, j_l0, e2] at c194
      refine EV.iconst (pc := 198) (v := 0) dX5_join_198 (by decide) ?_
      refine EV.goto (pc := 199) (tgt := 203) dX5_join_199 (by decide) ?_
      refine EV.iadd (pc := 203) dX5_join_203 ?_
      refine EV.topi (y := nI (N + if 0 < (jW s (g.toInt + d.toInt * (K : Int)) (s_cn s)).2 then 1 else 0)) (by first | (rw [if_pos (by omega), nI_p1]) | (rw [if_neg (by omega), Int32.add_zero, Nat.add_zero])) ?_
      refine EV.istore (pc := 204) dX5_join_204 (by decide) (by dsimp only [lst1, lk] <;> rfl) ?_
      refine EV.iinc (pc := 206) dX5_join_206 (by decide) rfl (by first | exact nI_inc _ | rfl) (by dsimp only [lst1, lk] <;> rfl) ?_
      refine EV.goto (pc := 209) (tgt := 63) dX5_join_209 (by decide) ?_
      exact kx h _ _ _ _ _ hw

theorem jW_gs {s : St} {F : Nat → Int64} {w : Int} {n : Nat} : jW (S_gr s F) w n = jW s w n := jW_gr n
theorem grN_s {s : St} {g d : Int} {i : Nat} : grN s g d (i + 1) = vp_updL (grN s g d i) i (jI (jV s (g + d * i))) := rfl
theorem gr_gr {s : St} {F F2 : Nat → Int64} : S_gr (S_gr s F) F2 = S_gr s F2 := by
  obtain ⟨a1, a2, a3, a4, a5, a6, a7, a8, a9, a10, a11, a12, a13, a14, a15, a16, a17, a18, a19, a20, a21, a22, a23, a24⟩ := s
  simp only [S_gr]
theorem gr_rd {s : St} {F : Nat → Int64} : s_gr (S_gr s F) = F := by
  obtain ⟨a1, a2, a3, a4, a5, a6, a7, a8, a9, a10, a11, a12, a13, a14, a15, a16, a17, a18, a19, a20, a21, a22, a23, a24⟩ := s
  simp only [s_gr, S_gr]

set_option maxHeartbeats 4000000 in
set_option maxRecDepth 100000 in
theorem l_njo {G : eG} {ad : Nat → Nat} {s : St} {z : Zm} {hm : Nat → va_E} (g d : Int32) (m : Nat) (hg : -1000000 ≤ g.toInt ∧ g.toInt ≤ 1000000) (hd : 1 ≤ d.toInt ∧ d.toInt ≤ 100000) (hm60 : m ≤ 60) (hl : colOk s) (hcn : s_cn s ≤ 4) (hco : ∀ c, c < 4 → s_co s c ≤ 20) (hnm : ∀ c, c < 4 → ∀ x, x < 20 → s_nm s c x ≤ 700000) (v7 v9 : Option Value) (h7 : v7 = none) (h9 : v9 = none) : ∀ (n i : Nat) (h : Nat → va_E) (v6 v8 v10 v11 v12 : Option Value), i + n = m → MW G ad (S_gr s (grN s g.toInt d.toInt i)) z hm h → EV G M_X5_join cX5_join none ad 54 (PM G ad hm (.int (nI (hdN s g.toInt d.toInt m))) (S_gr s (grN s g.toInt d.toInt m))) 63 [some (.ref (ad 34)), some (.int g), some (.int d), some (.int (nI m)), some (.int (nI (hdN s g.toInt d.toInt i))), some (.int (nI i)), v6, v7, v8, v9, v10, v11, v12, none] [] h := by
  intro n
  induction n with
  | zero =>
    intro i h v6 v8 v10 v11 v12 hi hw
    have ei : i = m := by omega
    subst ei
    refine EV.iload (pc := 63) dX5_join_63 rfl ?_
    refine EV.iload_n (pc := 65) dX5_join_65 rfl ?_
    refine EV.icmp_ge (pc := 66) (tgt := 212) dX5_join_66 (by decide) (fun _ => ?_) (fun q => absurd ((nI_leI (a := i) (b := i) (by omega) (by omega)).mpr (Nat.le_refl _)) q)
    refine EV.iload (pc := 212) dX5_join_212 rfl ?_
    exact EV.iret (pc := 214) dX5_join_214 trivial ⟨rfl, z, hw⟩
  | succ n ih =>
    intro i h v6 v8 v10 v11 v12 hi hw
    have hi2 : i < m := by omega
    have qg := gd_in (k := i) hg hd (by omega)
    subst h7
    subst h9
    refine EV.iload (pc := 63) dX5_join_63 rfl ?_
    refine EV.iload_n (pc := 65) dX5_join_65 rfl ?_
    refine EV.icmp_ge (pc := 66) (tgt := 212) dX5_join_66 (by decide) (fun q => absurd q (fun z => absurd ((nI_leI (a := m) (b := i) (by omega) (by omega)).mp z) (by omega))) (fun _ => ?_)
    refine EV.lconst (pc := 69) (v := 0) dX5_join_69 (by decide) ?_
    refine EV.lstore (pc := 70) dX5_join_70 (by decide) (by dsimp only [lst2, lno, lk] <;> rfl) ?_
    refine EV.lconst (pc := 72) (v := 0) dX5_join_72 (by decide) ?_
    refine EV.lstore (pc := 73) dX5_join_73 (by decide) (by dsimp only [lst2, lno, lk] <;> rfl) ?_
    refine EV.iconst (pc := 75) (v := 0) dX5_join_75 (by decide) ?_
    refine EV.istore (pc := 76) dX5_join_76 (by decide) (by dsimp only [lst1, lk] <;> rfl) ?_
    have hl2 : colOk (S_gr s (grN s g.toInt d.toInt i)) := hl
    refine l_nji (s := S_gr s (grN s g.toInt d.toInt i)) hw g d i (by omega) (by omega) hl2 hcn hco hnm _ _ _ (fun v10 v11 v12 => ?_) (s_cn s) 0 _ _ (by show 0 + s_cn s = s_cn s; omega)
    refine l_njx (s := S_gr s (grN s g.toInt d.toInt i)) hw g d i (by omega) (by omega) hl2 hcn hco hnm (hdN s g.toInt d.toInt i) _ _ _ _ _ (fun h v6 v8 v10 v11 v12 hw => ?_)
    rw [jV_gr, gr_gr, gr_rd, ← grN_s] at hw
    refine EV.eq rfl ?_ rfl rfl (ih (i + 1) h (some (.long v6)) (some (.long v8)) v10 v11 v12 (by omega) hw)
    rw [jW_gs]
    rfl

theorem jW_gc {s : St} {v : Nat} {w : Int} : ∀ n, jW (S_gc s v) w n = jW s w n
  | 0 => rfl
  | n + 1 => by
    have e : colS (S_gc s v) n w = colS s n w := rfl
    simp only [jW]
    rw [jW_gc n, e]
theorem jV_gc {s : St} {v : Nat} {w : Int} : jV (S_gc s v) w = jV s w := by
  unfold jV
  have e : jW (S_gc s v) w (s_cn (S_gc s v)) = jW s w (s_cn s) := jW_gc (s_cn s)
  rw [e]
theorem grN_gc {s : St} {v : Nat} {g d : Int} : ∀ n, grN (S_gc s v) g d n = grN s g d n
  | 0 => rfl
  | n + 1 => by
    rw [grN_s, grN_s, grN_gc n, jV_gc]
theorem hdN_gc {s : St} {v : Nat} {g d : Int} : ∀ n, hdN (S_gc s v) g d n = hdN s g d n
  | 0 => rfl
  | n + 1 => by
    have e : jW (S_gc s v) (g + d * n) (s_cn (S_gc s v)) = jW s (g + d * n) (s_cn s) := jW_gc (s_cn s)
    simp only [hdN]
    rw [hdN_gc n, e]
theorem gc_gr {s : St} {v : Nat} {F : Nat → Int64} : S_gr (S_gc s v) F = S_gc (S_gr s F) v := by
  obtain ⟨a1, a2, a3, a4, a5, a6, a7, a8, a9, a10, a11, a12, a13, a14, a15, a16, a17, a18, a19, a20, a21, a22, a23, a24⟩ := s
  simp only [S_gr, S_gc]

set_option maxHeartbeats 4000000 in
set_option maxRecDepth 100000 in
theorem q_join {G : eG} {ad : Nat → Nat} {h : Nat → va_E} {s : St} {z : Zm} {hm : Nat → va_E} (hw : MW G ad s z hm h) (hI : Inv s) (g d n : Int32)  : MC G M_X5_join cX5_join ad 54 [.ref (ad 34), .int g, .int d, .int n] h (PM G ad hm (.int (f_join s g d n).1) (f_join s g d n).2) := by
  have hcn : s_cn s ≤ 4 := hI.2.2.1
  have hq := cnt_le (s_li s) (s_cn s)
  have en := nI_t (show cnt (s_li s) (s_cn s) < 2147483648 by omega)
  refine MC.of (by decide +kernel) (Nat.le_of_ble_eq_true rfl) (by dsimp only [linit, Nat.reduceSub, List.reduceReplicate] <;> rfl) ?_
  refine EV.iload_n (pc := 0) dX5_join_0 rfl ?_
  refine EV.i2l (pc := 1) dX5_join_1 ?_
  refine EV.ldc2 (pc := 2) dX5_join_2 kcX5_180 ?_
  refine EV.ldc2 (pc := 5) dX5_join_5 kcX5_171 ?_
  refine EV.callSR1 (pc := 8) (M' := M_X5_in) dX5_join_8 lkX5_75 okS_X5_in (n_in _ _ _) (by decide) rfl rfl (Nat.le_of_ble_eq_true rfl) ?_
  refine EV.if_eq (pc := 11) (tgt := 38) dX5_join_11 (by decide) (fun c11 => ?_) (fun c11 => ?_)
  · replace c11 := b2i_F c11
    try simp only [Int32.lt_iff_toInt_lt, Int32.le_iff_toInt_le, ← Int32.toInt_inj, Int64.lt_iff_toInt_lt, Int64.le_iff_toInt_le, ← Int64.toInt_inj, Int32.toInt_toInt64, i_l0, i_l1, i_l2, i_l5, i_l19, i_m1, j_l0, j_l1, j_l5, i_l3, i_l4, i_l6, i_l7, i_l8, i_l9, i_l12, i_l16, i_l20, i_l60, i_l64, i_l100, i_l200, i_l304, i_l2000, i_l10000, i_l100000, i_l1000000, i_n1000000, i_n19, i_n101, j_l2, j_l3, j_l19, j_l304, j_l2000, j_l10000, j_l100000, j_l1000000, j_l60, j_l100, j_n1000000, j_n19, en] at c11
    refine EV.bipush (pc := 38) (v := -102) dX5_join_38 (by decide) ?_
    refine EV.iret (pc := 40) dX5_join_40 trivial ?_
    exact PM.i (by unfold f_join; rw [if_neg (by omega)]) hw
  · replace c11 := b2i_T c11
    try simp only [Int32.lt_iff_toInt_lt, Int32.le_iff_toInt_le, ← Int32.toInt_inj, Int64.lt_iff_toInt_lt, Int64.le_iff_toInt_le, ← Int64.toInt_inj, Int32.toInt_toInt64, i_l0, i_l1, i_l2, i_l5, i_l19, i_m1, j_l0, j_l1, j_l5, i_l3, i_l4, i_l6, i_l7, i_l8, i_l9, i_l12, i_l16, i_l20, i_l60, i_l64, i_l100, i_l200, i_l304, i_l2000, i_l10000, i_l100000, i_l1000000, i_n1000000, i_n19, i_n101, j_l2, j_l3, j_l19, j_l304, j_l2000, j_l10000, j_l100000, j_l1000000, j_l60, j_l100, j_n1000000, j_n19, en] at c11
    refine EV.iload_n (pc := 14) dX5_join_14 rfl ?_
    refine EV.i2l (pc := 15) dX5_join_15 ?_
    refine EV.lconst (pc := 16) (v := 1) dX5_join_16 (by decide) ?_
    refine EV.ldc2 (pc := 17) dX5_join_17 kcX5_143 ?_
    refine EV.callSR1 (pc := 20) (M' := M_X5_in) dX5_join_20 lkX5_75 okS_X5_in (n_in _ _ _) (by decide) rfl rfl (Nat.le_of_ble_eq_true rfl) ?_
    refine EV.if_eq (pc := 23) (tgt := 38) dX5_join_23 (by decide) (fun c23 => ?_) (fun c23 => ?_)
    · replace c23 := b2i_F c23
      try simp only [Int32.lt_iff_toInt_lt, Int32.le_iff_toInt_le, ← Int32.toInt_inj, Int64.lt_iff_toInt_lt, Int64.le_iff_toInt_le, ← Int64.toInt_inj, Int32.toInt_toInt64, i_l0, i_l1, i_l2, i_l5, i_l19, i_m1, j_l0, j_l1, j_l5, i_l3, i_l4, i_l6, i_l7, i_l8, i_l9, i_l12, i_l16, i_l20, i_l60, i_l64, i_l100, i_l200, i_l304, i_l2000, i_l10000, i_l100000, i_l1000000, i_n1000000, i_n19, i_n101, j_l2, j_l3, j_l19, j_l304, j_l2000, j_l10000, j_l100000, j_l1000000, j_l60, j_l100, j_n1000000, j_n19, en] at c23
      refine EV.bipush (pc := 38) (v := -102) dX5_join_38 (by decide) ?_
      refine EV.iret (pc := 40) dX5_join_40 trivial ?_
      exact PM.i (by unfold f_join; rw [if_neg (by omega)]) hw
    · replace c23 := b2i_T c23
      try simp only [Int32.lt_iff_toInt_lt, Int32.le_iff_toInt_le, ← Int32.toInt_inj, Int64.lt_iff_toInt_lt, Int64.le_iff_toInt_le, ← Int64.toInt_inj, Int32.toInt_toInt64, i_l0, i_l1, i_l2, i_l5, i_l19, i_m1, j_l0, j_l1, j_l5, i_l3, i_l4, i_l6, i_l7, i_l8, i_l9, i_l12, i_l16, i_l20, i_l60, i_l64, i_l100, i_l200, i_l304, i_l2000, i_l10000, i_l100000, i_l1000000, i_n1000000, i_n19, i_n101, j_l2, j_l3, j_l19, j_l304, j_l2000, j_l10000, j_l100000, j_l1000000, j_l60, j_l100, j_n1000000, j_n19, en] at c23
      refine EV.iload_n (pc := 26) dX5_join_26 rfl ?_
      refine EV.i2l (pc := 27) dX5_join_27 ?_
      refine EV.lconst (pc := 28) (v := 1) dX5_join_28 (by decide) ?_
      refine EV.ldc2 (pc := 29) dX5_join_29 kcX5_210 ?_
      refine EV.callSR1 (pc := 32) (M' := M_X5_in) dX5_join_32 lkX5_75 okS_X5_in (n_in _ _ _) (by decide) rfl rfl (Nat.le_of_ble_eq_true rfl) ?_
      refine EV.if_ne (pc := 35) (tgt := 41) dX5_join_35 (by decide) (fun c35 => ?_) (fun c35 => ?_)
      · replace c35 := b2i_T c35
        try simp only [Int32.lt_iff_toInt_lt, Int32.le_iff_toInt_le, ← Int32.toInt_inj, Int64.lt_iff_toInt_lt, Int64.le_iff_toInt_le, ← Int64.toInt_inj, Int32.toInt_toInt64, i_l0, i_l1, i_l2, i_l5, i_l19, i_m1, j_l0, j_l1, j_l5, i_l3, i_l4, i_l6, i_l7, i_l8, i_l9, i_l12, i_l16, i_l20, i_l60, i_l64, i_l100, i_l200, i_l304, i_l2000, i_l10000, i_l100000, i_l1000000, i_n1000000, i_n19, i_n101, j_l2, j_l3, j_l19, j_l304, j_l2000, j_l10000, j_l100000, j_l1000000, j_l60, j_l100, j_n1000000, j_n19, en] at c35
        refine EV.aload_n (pc := 41) dX5_join_41 rfl ?_
        refine EV.iconst (pc := 42) (v := 4) dX5_join_42 (by decide) ?_
        refine EV.callVR1 (pc := 43) (M' := M_X5_count) dX5_join_43 lkX5_212 okV_X5_count (n_count hw hI 4) (by decide) rfl rfl (Nat.le_of_ble_eq_true rfl) (by decide) hw.h34 ?_
        refine EV.topi (y := nI (cnt (s_li s) (s_cn s))) (by unfold f_count; rw [if_neg (by decide), if_neg (by decide), if_neg (by decide), if_neg (by decide), if_pos rfl]) ?_
        refine EV.if_ne (pc := 46) (tgt := 52) dX5_join_46 (by decide) (fun c46 => ?_) (fun c46 => ?_)
        · try simp only [Int32.lt_iff_toInt_lt, Int32.le_iff_toInt_le, ← Int32.toInt_inj, Int64.lt_iff_toInt_lt, Int64.le_iff_toInt_le, ← Int64.toInt_inj, Int32.toInt_toInt64, i_l0, i_l1, i_l2, i_l5, i_l19, i_m1, j_l0, j_l1, j_l5, i_l3, i_l4, i_l6, i_l7, i_l8, i_l9, i_l12, i_l16, i_l20, i_l60, i_l64, i_l100, i_l200, i_l304, i_l2000, i_l10000, i_l100000, i_l1000000, i_n1000000, i_n19, i_n101, j_l2, j_l3, j_l19, j_l304, j_l2000, j_l10000, j_l100000, j_l1000000, j_l60, j_l100, j_n1000000, j_n19, en] at c46
          obtain ⟨n1, rfl, en1, ln1⟩ := i_nat (show 0 ≤ n.toInt by omega)
          refine EV.aload_n (pc := 52) dX5_join_52 rfl ?_
          refine EV.iload_n (pc := 53) dX5_join_53 rfl ?_
          refine EV.putf (pc := 54) dX5_join_54 fpX5_215 (by decide) hw.h34 rfl rfl (Nat.le_of_ble_eq_true rfl) ?_
          refine EV.abs (Pr := MW G ad (S_gc s n1) z hm) (hw.set_gc n1) (fun h hw => ?_)
          refine EV.iconst (pc := 57) (v := 0) dX5_join_57 (by decide) ?_
          refine EV.istore (pc := 58) dX5_join_58 (by decide) (by dsimp only [lst1, lk] <;> rfl) ?_
          refine EV.iconst (pc := 60) (v := 0) dX5_join_60 (by decide) ?_
          refine EV.istore (pc := 61) dX5_join_61 (by decide) (by dsimp only [lst1, lk] <;> rfl) ?_
          have e6 : f_join s g d (nI n1) = (nI (hdN s g.toInt d.toInt n1), S_gc (S_gr s (grN s g.toInt d.toInt n1)) n1) := by unfold f_join; rw [if_pos (by omega), if_neg (by omega), nI_tn (by omega)]
          rw [e6]
          have q := l_njo (s := S_gc s n1) (z := z) (G := G) (ad := ad) (hm := hm) g d n1 (by omega) (by omega) (by omega) hI.2.2.2.2.2.1 hcn (fun c hc => (hI.2.2.2.1 c hc).2.2.2) hI.2.2.2.2.1 none none rfl rfl n1 0 h none none none none none (by omega) (by rw [show grN (S_gc s n1) g.toInt d.toInt 0 = s_gr (S_gc s n1) from rfl]; exact hw)
          rw [hdN_gc, grN_gc, gc_gr] at q
          exact q
        · try simp only [Int32.lt_iff_toInt_lt, Int32.le_iff_toInt_le, ← Int32.toInt_inj, Int64.lt_iff_toInt_lt, Int64.le_iff_toInt_le, ← Int64.toInt_inj, Int32.toInt_toInt64, i_l0, i_l1, i_l2, i_l5, i_l19, i_m1, j_l0, j_l1, j_l5, i_l3, i_l4, i_l6, i_l7, i_l8, i_l9, i_l12, i_l16, i_l20, i_l60, i_l64, i_l100, i_l200, i_l304, i_l2000, i_l10000, i_l100000, i_l1000000, i_n1000000, i_n19, i_n101, j_l2, j_l3, j_l19, j_l304, j_l2000, j_l10000, j_l100000, j_l1000000, j_l60, j_l100, j_n1000000, j_n19, en] at c46
          refine EV.bipush (pc := 49) (v := -103) dX5_join_49 (by decide) ?_
          refine EV.iret (pc := 51) dX5_join_51 trivial ?_
          exact PM.i (by unfold f_join; rw [if_pos (by omega), if_pos (by omega)]) hw
      · replace c35 := b2i_F c35
        try simp only [Int32.lt_iff_toInt_lt, Int32.le_iff_toInt_le, ← Int32.toInt_inj, Int64.lt_iff_toInt_lt, Int64.le_iff_toInt_le, ← Int64.toInt_inj, Int32.toInt_toInt64, i_l0, i_l1, i_l2, i_l5, i_l19, i_m1, j_l0, j_l1, j_l5, i_l3, i_l4, i_l6, i_l7, i_l8, i_l9, i_l12, i_l16, i_l20, i_l60, i_l64, i_l100, i_l200, i_l304, i_l2000, i_l10000, i_l100000, i_l1000000, i_n1000000, i_n19, i_n101, j_l2, j_l3, j_l19, j_l304, j_l2000, j_l10000, j_l100000, j_l1000000, j_l60, j_l100, j_n1000000, j_n19, en] at c35
        refine EV.bipush (pc := 38) (v := -102) dX5_join_38 (by decide) ?_
        refine EV.iret (pc := 40) dX5_join_40 trivial ?_
        exact PM.i (by unfold f_join; rw [if_neg (by omega)]) hw

theorem nI_inc (i : Nat) : nI i + Int32.ofInt 1 = nI (i + 1) := nI_1 i
theorem i_nat {x : Int32} (h0 : 0 ≤ x.toInt) : ∃ k : Nat, x = nI k ∧ x.toInt = k ∧ k < 2147483648 := by
  refine ⟨x.toInt.toNat, ?_, by omega, by have := i_hi x; omega⟩
  rw [nI_iI, Int.toNat_of_nonneg h0, iI_of]
theorem nI_t {n : Nat} (h : n < 2147483648) : (nI n).toInt = n := nI_toInt (by omega)
theorem lN_t {n : Nat} (h : n < 9223372036854775808) : (lN n).toInt = n := by rw [lN_jI]; exact jI_toInt (by omega) (by omega)
theorem nI_at (y x : Nat) : nI y * 20 + nI x = nI (y * 20 + x) := by
  rw [show (20 : Int32) = nI 20 from rfl, pk_mul, nI_add]
theorem EV.abs {G : eG} {M : eM} {cc : ByteArray} {X : Option (Nat × Nat × (Nat → Int32))} {ad : Nat → Nat} {n : Nat} {post : eP} {pc : Nat} {lv : List (Option Value)} {st : List Value} {h : Nat → va_E} {Pr : (Nat → va_E) → Prop} (hp : Pr h) (k : ∀ h2, Pr h2 → EV G M cc X ad n post pc lv st h2) : EV G M cc X ad n post pc lv st h := k h hp

set_option maxHeartbeats 4000000 in
set_option maxRecDepth 100000 in
theorem m_become {G : eG} {ad : Nat → Nat} {h : Nat → va_E} (q : Nat) (i a b f : Int32) (a2 b2 f2 : Int32) (hq : q < 54) (hh : h q = .inr (1, [.int i, .int a, .int b, .int f])) : MC G M_X1_become cX1_become ad 54 [.ref (ad q), .int a2, .int b2, .int f2] h (IS none (va_up h q (.inr (1, [.int 1, .int a2, .int b2, .int f2])))) := by
  refine MC.of (by decide +kernel) (Nat.le_of_ble_eq_true rfl) (by dsimp only [linit, Nat.reduceSub, List.reduceReplicate] <;> rfl) ?_
  refine EV.aload_n (pc := 0) dX1_become_0 rfl ?_
  refine EV.iconst (pc := 1) (v := 1) dX1_become_1 (by decide) ?_
  refine EV.putf (pc := 2) dX1_become_2 fpX1_7 hq hh rfl rfl (Nat.le_of_ble_eq_true rfl) ?_
  refine EV.aload_n (pc := 5) dX1_become_5 rfl ?_
  refine EV.iload_n (pc := 6) dX1_become_6 rfl ?_
  refine EV.putf (pc := 7) dX1_become_7 fpX1_13 hq va_up_s rfl rfl (Nat.le_of_ble_eq_true rfl) ?_
  refine EV.aload_n (pc := 10) dX1_become_10 rfl ?_
  refine EV.iload_n (pc := 11) dX1_become_11 rfl ?_
  refine EV.putf (pc := 12) dX1_become_12 fpX1_17 hq va_up_s rfl rfl (Nat.le_of_ble_eq_true rfl) ?_
  refine EV.aload_n (pc := 15) dX1_become_15 rfl ?_
  refine EV.iload_n (pc := 16) dX1_become_16 rfl ?_
  refine EV.putf (pc := 17) dX1_become_17 fpX1_20 hq va_up_s rfl rfl (Nat.le_of_ble_eq_true rfl) ?_
  exact EV.vret (pc := 20) dX1_become_20 trivial ⟨rfl, by simp only [bx_uu]; rfl⟩

set_option maxHeartbeats 4000000 in
set_option maxRecDepth 100000 in
theorem m_drop {G : eG} {ad : Nat → Nat} {h : Nat → va_E} (q : Nat) (i a b f : Int32) (hq : q < 54) (hh : h q = .inr (1, [.int i, .int a, .int b, .int f])) : MC G M_X1_drop cX1_drop ad 54 [.ref (ad q)] h (IS none (va_up h q (.inr (1, [.int 0, .int 0, .int 0, .int 0])))) := by
  refine MC.of (by decide +kernel) (Nat.le_of_ble_eq_true rfl) (by dsimp only [linit, Nat.reduceSub, List.reduceReplicate] <;> rfl) ?_
  refine EV.aload_n (pc := 0) dX1_drop_0 rfl ?_
  refine EV.iconst (pc := 1) (v := 0) dX1_drop_1 (by decide) ?_
  refine EV.putf (pc := 2) dX1_drop_2 fpX1_7 hq hh rfl rfl (Nat.le_of_ble_eq_true rfl) ?_
  refine EV.aload_n (pc := 5) dX1_drop_5 rfl ?_
  refine EV.iconst (pc := 6) (v := 0) dX1_drop_6 (by decide) ?_
  refine EV.putf (pc := 7) dX1_drop_7 fpX1_13 hq va_up_s rfl rfl (Nat.le_of_ble_eq_true rfl) ?_
  refine EV.aload_n (pc := 10) dX1_drop_10 rfl ?_
  refine EV.iconst (pc := 11) (v := 0) dX1_drop_11 (by decide) ?_
  refine EV.putf (pc := 12) dX1_drop_12 fpX1_17 hq va_up_s rfl rfl (Nat.le_of_ble_eq_true rfl) ?_
  refine EV.aload_n (pc := 15) dX1_drop_15 rfl ?_
  refine EV.iconst (pc := 16) (v := 0) dX1_drop_16 (by decide) ?_
  refine EV.putf (pc := 17) dX1_drop_17 fpX1_20 hq va_up_s rfl rfl (Nat.le_of_ble_eq_true rfl) ?_
  exact EV.vret (pc := 20) dX1_drop_20 trivial ⟨rfl, by simp only [bx_uu]; rfl⟩

set_option maxHeartbeats 4000000 in
set_option maxRecDepth 100000 in
theorem m_losesTo {G : eG} {ad : Nat → Nat} {h : Nat → va_E} (q : Nat) (i : Bool) (a b f a2 b2 f2 : Int32) (hq : q < 54) (hh : h q = .inr (1, [.int (b2i i), .int a, .int b, .int f])) : MC G M_X1_losesTo cX1_losesTo ad 54 [.ref (ad q), .int a2, .int b2, .int f2] h (IS (some (.int (b2i (decide (i = false ∨ f.toInt < f2.toInt ∨ (f2.toInt = f.toInt ∧ (b2.toInt < b.toInt ∨ (b2.toInt = b.toInt ∧ a2.toInt < a.toInt)))))))) h) := by
  refine MC.of (by decide +kernel) (Nat.le_of_ble_eq_true rfl) (by dsimp only [linit, Nat.reduceSub, List.reduceReplicate] <;> rfl) ?_
  refine EV.aload_n (pc := 0) dX1_losesTo_0 rfl ?_
  refine EV.getf (pc := 1) dX1_losesTo_1 fgX1_7 hq hh rfl ?_
  refine EV.if_eq (pc := 4) (tgt := 15) dX1_losesTo_4 (by decide) (fun c4 => ?_) (fun c4 => ?_)
  · replace c4 := b2i_eq c4
    refine EV.aload_n (pc := 15) dX1_losesTo_15 rfl ?_
    refine EV.getf (pc := 16) dX1_losesTo_16 fgX1_7 hq hh rfl ?_
    refine EV.if_eq (pc := 19) (tgt := 30) dX1_losesTo_19 (by decide) (fun c19 => ?_) (fun c19 => ?_)
    · replace c19 := b2i_eq c19
      refine EV.iconst (pc := 30) (v := 1) dX1_losesTo_30 (by decide) ?_
      refine EV.goto (pc := 31) (tgt := 35) dX1_losesTo_31 (by decide) ?_
      refine EV.iret (pc := 35) dX1_losesTo_35 (by rfl) ?_
      exact ⟨congrArg (fun z => some (Value.int z)) (by first | exact b2i_1 (by (try simp only [Int32.lt_iff_toInt_lt, Int32.le_iff_toInt_le, ← Int32.toInt_inj, Int64.lt_iff_toInt_lt, Int64.le_iff_toInt_le, ← Int64.toInt_inj, i_l0, i_l1, i_l2, i_l5, i_l19, i_m1, j_l0, j_l1, j_l5, Int32.toInt_toInt64] at *); first | exact absurd (c4.symm.trans c19) (by decide) | exact absurd (c19.symm.trans c4) (by decide) | (simp only [c4, true_or]; done) | (simp only [c4, reduceCtorEq, false_or]; omega)) | exact b2i_0 (by (try simp only [Int32.lt_iff_toInt_lt, Int32.le_iff_toInt_le, ← Int32.toInt_inj, Int64.lt_iff_toInt_lt, Int64.le_iff_toInt_le, ← Int64.toInt_inj, i_l0, i_l1, i_l2, i_l5, i_l19, i_m1, j_l0, j_l1, j_l5, Int32.toInt_toInt64] at *); first | exact absurd (c4.symm.trans c19) (by decide) | exact absurd (c19.symm.trans c4) (by decide) | (simp only [c4, true_or]; done) | (simp only [c4, reduceCtorEq, false_or]; omega))), rfl⟩
    · replace c19 := b2i_ne c19
      refine EV.iload_n (pc := 22) dX1_losesTo_22 rfl ?_
      refine EV.aload_n (pc := 23) dX1_losesTo_23 rfl ?_
      refine EV.getf (pc := 24) dX1_losesTo_24 fgX1_20 hq hh rfl ?_
      refine EV.icmp_le (pc := 27) (tgt := 34) dX1_losesTo_27 (by decide) (fun c27 => ?_) (fun c27 => ?_)
      · refine EV.iconst (pc := 34) (v := 0) dX1_losesTo_34 (by decide) ?_
        refine EV.iret (pc := 35) dX1_losesTo_35 (by rfl) ?_
        exact ⟨congrArg (fun z => some (Value.int z)) (by first | exact b2i_1 (by (try simp only [Int32.lt_iff_toInt_lt, Int32.le_iff_toInt_le, ← Int32.toInt_inj, Int64.lt_iff_toInt_lt, Int64.le_iff_toInt_le, ← Int64.toInt_inj, i_l0, i_l1, i_l2, i_l5, i_l19, i_m1, j_l0, j_l1, j_l5, Int32.toInt_toInt64] at *); first | exact absurd (c4.symm.trans c19) (by decide) | exact absurd (c19.symm.trans c4) (by decide) | (simp only [c4, true_or]; done) | (simp only [c4, reduceCtorEq, false_or]; omega)) | exact b2i_0 (by (try simp only [Int32.lt_iff_toInt_lt, Int32.le_iff_toInt_le, ← Int32.toInt_inj, Int64.lt_iff_toInt_lt, Int64.le_iff_toInt_le, ← Int64.toInt_inj, i_l0, i_l1, i_l2, i_l5, i_l19, i_m1, j_l0, j_l1, j_l5, Int32.toInt_toInt64] at *); first | exact absurd (c4.symm.trans c19) (by decide) | exact absurd (c19.symm.trans c4) (by decide) | (simp only [c4, true_or]; done) | (simp only [c4, reduceCtorEq, false_or]; omega))), rfl⟩
      · refine EV.iconst (pc := 30) (v := 1) dX1_losesTo_30 (by decide) ?_
        refine EV.goto (pc := 31) (tgt := 35) dX1_losesTo_31 (by decide) ?_
        refine EV.iret (pc := 35) dX1_losesTo_35 (by rfl) ?_
        exact ⟨congrArg (fun z => some (Value.int z)) (by first | exact b2i_1 (by (try simp only [Int32.lt_iff_toInt_lt, Int32.le_iff_toInt_le, ← Int32.toInt_inj, Int64.lt_iff_toInt_lt, Int64.le_iff_toInt_le, ← Int64.toInt_inj, i_l0, i_l1, i_l2, i_l5, i_l19, i_m1, j_l0, j_l1, j_l5, Int32.toInt_toInt64] at *); first | exact absurd (c4.symm.trans c19) (by decide) | exact absurd (c19.symm.trans c4) (by decide) | (simp only [c4, true_or]; done) | (simp only [c4, reduceCtorEq, false_or]; omega)) | exact b2i_0 (by (try simp only [Int32.lt_iff_toInt_lt, Int32.le_iff_toInt_le, ← Int32.toInt_inj, Int64.lt_iff_toInt_lt, Int64.le_iff_toInt_le, ← Int64.toInt_inj, i_l0, i_l1, i_l2, i_l5, i_l19, i_m1, j_l0, j_l1, j_l5, Int32.toInt_toInt64] at *); first | exact absurd (c4.symm.trans c19) (by decide) | exact absurd (c19.symm.trans c4) (by decide) | (simp only [c4, true_or]; done) | (simp only [c4, reduceCtorEq, false_or]; omega))), rfl⟩
  · replace c4 := b2i_ne c4
    refine EV.iload_n (pc := 7) dX1_losesTo_7 rfl ?_
    refine EV.aload_n (pc := 8) dX1_losesTo_8 rfl ?_
    refine EV.getf (pc := 9) dX1_losesTo_9 fgX1_20 hq hh rfl ?_
    refine EV.icmp_eq (pc := 12) (tgt := 36) dX1_losesTo_12 (by decide) (fun c12 => ?_) (fun c12 => ?_)
    · refine EV.iload_n (pc := 36) dX1_losesTo_36 rfl ?_
      refine EV.aload_n (pc := 37) dX1_losesTo_37 rfl ?_
      refine EV.getf (pc := 38) dX1_losesTo_38 fgX1_17 hq hh rfl ?_
      refine EV.icmp_lt (pc := 41) (tgt := 60) dX1_losesTo_41 (by decide) (fun c41 => ?_) (fun c41 => ?_)
      · refine EV.iconst (pc := 60) (v := 1) dX1_losesTo_60 (by decide) ?_
        refine EV.goto (pc := 61) (tgt := 65) dX1_losesTo_61 (by decide) ?_
        refine EV.iret (pc := 65) dX1_losesTo_65 (by rfl) ?_
        exact ⟨congrArg (fun z => some (Value.int z)) (by first | exact b2i_1 (by (try simp only [Int32.lt_iff_toInt_lt, Int32.le_iff_toInt_le, ← Int32.toInt_inj, Int64.lt_iff_toInt_lt, Int64.le_iff_toInt_le, ← Int64.toInt_inj, i_l0, i_l1, i_l2, i_l5, i_l19, i_m1, j_l0, j_l1, j_l5, Int32.toInt_toInt64] at *); first | exact absurd (c4.symm.trans c19) (by decide) | exact absurd (c19.symm.trans c4) (by decide) | (simp only [c4, true_or]; done) | (simp only [c4, reduceCtorEq, false_or]; omega)) | exact b2i_0 (by (try simp only [Int32.lt_iff_toInt_lt, Int32.le_iff_toInt_le, ← Int32.toInt_inj, Int64.lt_iff_toInt_lt, Int64.le_iff_toInt_le, ← Int64.toInt_inj, i_l0, i_l1, i_l2, i_l5, i_l19, i_m1, j_l0, j_l1, j_l5, Int32.toInt_toInt64] at *); first | exact absurd (c4.symm.trans c19) (by decide) | exact absurd (c19.symm.trans c4) (by decide) | (simp only [c4, true_or]; done) | (simp only [c4, reduceCtorEq, false_or]; omega))), rfl⟩
      · refine EV.iload_n (pc := 44) dX1_losesTo_44 rfl ?_
        refine EV.aload_n (pc := 45) dX1_losesTo_45 rfl ?_
        refine EV.getf (pc := 46) dX1_losesTo_46 fgX1_17 hq hh rfl ?_
        refine EV.icmp_ne (pc := 49) (tgt := 64) dX1_losesTo_49 (by decide) (fun c49 => ?_) (fun c49 => ?_)
        · refine EV.iconst (pc := 64) (v := 0) dX1_losesTo_64 (by decide) ?_
          refine EV.iret (pc := 65) dX1_losesTo_65 (by rfl) ?_
          exact ⟨congrArg (fun z => some (Value.int z)) (by first | exact b2i_1 (by (try simp only [Int32.lt_iff_toInt_lt, Int32.le_iff_toInt_le, ← Int32.toInt_inj, Int64.lt_iff_toInt_lt, Int64.le_iff_toInt_le, ← Int64.toInt_inj, i_l0, i_l1, i_l2, i_l5, i_l19, i_m1, j_l0, j_l1, j_l5, Int32.toInt_toInt64] at *); first | exact absurd (c4.symm.trans c19) (by decide) | exact absurd (c19.symm.trans c4) (by decide) | (simp only [c4, true_or]; done) | (simp only [c4, reduceCtorEq, false_or]; omega)) | exact b2i_0 (by (try simp only [Int32.lt_iff_toInt_lt, Int32.le_iff_toInt_le, ← Int32.toInt_inj, Int64.lt_iff_toInt_lt, Int64.le_iff_toInt_le, ← Int64.toInt_inj, i_l0, i_l1, i_l2, i_l5, i_l19, i_m1, j_l0, j_l1, j_l5, Int32.toInt_toInt64] at *); first | exact absurd (c4.symm.trans c19) (by decide) | exact absurd (c19.symm.trans c4) (by decide) | (simp only [c4, true_or]; done) | (simp only [c4, reduceCtorEq, false_or]; omega))), rfl⟩
        · refine EV.iload_n (pc := 52) dX1_losesTo_52 rfl ?_
          refine EV.aload_n (pc := 53) dX1_losesTo_53 rfl ?_
          refine EV.getf (pc := 54) dX1_losesTo_54 fgX1_13 hq hh rfl ?_
          refine EV.icmp_ge (pc := 57) (tgt := 64) dX1_losesTo_57 (by decide) (fun c57 => ?_) (fun c57 => ?_)
          · refine EV.iconst (pc := 64) (v := 0) dX1_losesTo_64 (by decide) ?_
            refine EV.iret (pc := 65) dX1_losesTo_65 (by rfl) ?_
            exact ⟨congrArg (fun z => some (Value.int z)) (by first | exact b2i_1 (by (try simp only [Int32.lt_iff_toInt_lt, Int32.le_iff_toInt_le, ← Int32.toInt_inj, Int64.lt_iff_toInt_lt, Int64.le_iff_toInt_le, ← Int64.toInt_inj, i_l0, i_l1, i_l2, i_l5, i_l19, i_m1, j_l0, j_l1, j_l5, Int32.toInt_toInt64] at *); first | exact absurd (c4.symm.trans c19) (by decide) | exact absurd (c19.symm.trans c4) (by decide) | (simp only [c4, true_or]; done) | (simp only [c4, reduceCtorEq, false_or]; omega)) | exact b2i_0 (by (try simp only [Int32.lt_iff_toInt_lt, Int32.le_iff_toInt_le, ← Int32.toInt_inj, Int64.lt_iff_toInt_lt, Int64.le_iff_toInt_le, ← Int64.toInt_inj, i_l0, i_l1, i_l2, i_l5, i_l19, i_m1, j_l0, j_l1, j_l5, Int32.toInt_toInt64] at *); first | exact absurd (c4.symm.trans c19) (by decide) | exact absurd (c19.symm.trans c4) (by decide) | (simp only [c4, true_or]; done) | (simp only [c4, reduceCtorEq, false_or]; omega))), rfl⟩
          · refine EV.iconst (pc := 60) (v := 1) dX1_losesTo_60 (by decide) ?_
            refine EV.goto (pc := 61) (tgt := 65) dX1_losesTo_61 (by decide) ?_
            refine EV.iret (pc := 65) dX1_losesTo_65 (by rfl) ?_
            exact ⟨congrArg (fun z => some (Value.int z)) (by first | exact b2i_1 (by (try simp only [Int32.lt_iff_toInt_lt, Int32.le_iff_toInt_le, ← Int32.toInt_inj, Int64.lt_iff_toInt_lt, Int64.le_iff_toInt_le, ← Int64.toInt_inj, i_l0, i_l1, i_l2, i_l5, i_l19, i_m1, j_l0, j_l1, j_l5, Int32.toInt_toInt64] at *); first | exact absurd (c4.symm.trans c19) (by decide) | exact absurd (c19.symm.trans c4) (by decide) | (simp only [c4, true_or]; done) | (simp only [c4, reduceCtorEq, false_or]; omega)) | exact b2i_0 (by (try simp only [Int32.lt_iff_toInt_lt, Int32.le_iff_toInt_le, ← Int32.toInt_inj, Int64.lt_iff_toInt_lt, Int64.le_iff_toInt_le, ← Int64.toInt_inj, i_l0, i_l1, i_l2, i_l5, i_l19, i_m1, j_l0, j_l1, j_l5, Int32.toInt_toInt64] at *); first | exact absurd (c4.symm.trans c19) (by decide) | exact absurd (c19.symm.trans c4) (by decide) | (simp only [c4, true_or]; done) | (simp only [c4, reduceCtorEq, false_or]; omega))), rfl⟩
    · refine EV.aload_n (pc := 15) dX1_losesTo_15 rfl ?_
      refine EV.getf (pc := 16) dX1_losesTo_16 fgX1_7 hq hh rfl ?_
      refine EV.if_eq (pc := 19) (tgt := 30) dX1_losesTo_19 (by decide) (fun c19 => ?_) (fun c19 => ?_)
      · replace c19 := b2i_eq c19
        refine EV.iconst (pc := 30) (v := 1) dX1_losesTo_30 (by decide) ?_
        refine EV.goto (pc := 31) (tgt := 35) dX1_losesTo_31 (by decide) ?_
        refine EV.iret (pc := 35) dX1_losesTo_35 (by rfl) ?_
        exact ⟨congrArg (fun z => some (Value.int z)) (by first | exact b2i_1 (by (try simp only [Int32.lt_iff_toInt_lt, Int32.le_iff_toInt_le, ← Int32.toInt_inj, Int64.lt_iff_toInt_lt, Int64.le_iff_toInt_le, ← Int64.toInt_inj, i_l0, i_l1, i_l2, i_l5, i_l19, i_m1, j_l0, j_l1, j_l5, Int32.toInt_toInt64] at *); first | exact absurd (c4.symm.trans c19) (by decide) | exact absurd (c19.symm.trans c4) (by decide) | (simp only [c4, true_or]; done) | (simp only [c4, reduceCtorEq, false_or]; omega)) | exact b2i_0 (by (try simp only [Int32.lt_iff_toInt_lt, Int32.le_iff_toInt_le, ← Int32.toInt_inj, Int64.lt_iff_toInt_lt, Int64.le_iff_toInt_le, ← Int64.toInt_inj, i_l0, i_l1, i_l2, i_l5, i_l19, i_m1, j_l0, j_l1, j_l5, Int32.toInt_toInt64] at *); first | exact absurd (c4.symm.trans c19) (by decide) | exact absurd (c19.symm.trans c4) (by decide) | (simp only [c4, true_or]; done) | (simp only [c4, reduceCtorEq, false_or]; omega))), rfl⟩
      · replace c19 := b2i_ne c19
        refine EV.iload_n (pc := 22) dX1_losesTo_22 rfl ?_
        refine EV.aload_n (pc := 23) dX1_losesTo_23 rfl ?_
        refine EV.getf (pc := 24) dX1_losesTo_24 fgX1_20 hq hh rfl ?_
        refine EV.icmp_le (pc := 27) (tgt := 34) dX1_losesTo_27 (by decide) (fun c27 => ?_) (fun c27 => ?_)
        · refine EV.iconst (pc := 34) (v := 0) dX1_losesTo_34 (by decide) ?_
          refine EV.iret (pc := 35) dX1_losesTo_35 (by rfl) ?_
          exact ⟨congrArg (fun z => some (Value.int z)) (by first | exact b2i_1 (by (try simp only [Int32.lt_iff_toInt_lt, Int32.le_iff_toInt_le, ← Int32.toInt_inj, Int64.lt_iff_toInt_lt, Int64.le_iff_toInt_le, ← Int64.toInt_inj, i_l0, i_l1, i_l2, i_l5, i_l19, i_m1, j_l0, j_l1, j_l5, Int32.toInt_toInt64] at *); first | exact absurd (c4.symm.trans c19) (by decide) | exact absurd (c19.symm.trans c4) (by decide) | (simp only [c4, true_or]; done) | (simp only [c4, reduceCtorEq, false_or]; omega)) | exact b2i_0 (by (try simp only [Int32.lt_iff_toInt_lt, Int32.le_iff_toInt_le, ← Int32.toInt_inj, Int64.lt_iff_toInt_lt, Int64.le_iff_toInt_le, ← Int64.toInt_inj, i_l0, i_l1, i_l2, i_l5, i_l19, i_m1, j_l0, j_l1, j_l5, Int32.toInt_toInt64] at *); first | exact absurd (c4.symm.trans c19) (by decide) | exact absurd (c19.symm.trans c4) (by decide) | (simp only [c4, true_or]; done) | (simp only [c4, reduceCtorEq, false_or]; omega))), rfl⟩
        · refine EV.iconst (pc := 30) (v := 1) dX1_losesTo_30 (by decide) ?_
          refine EV.goto (pc := 31) (tgt := 35) dX1_losesTo_31 (by decide) ?_
          refine EV.iret (pc := 35) dX1_losesTo_35 (by rfl) ?_
          exact ⟨congrArg (fun z => some (Value.int z)) (by first | exact b2i_1 (by (try simp only [Int32.lt_iff_toInt_lt, Int32.le_iff_toInt_le, ← Int32.toInt_inj, Int64.lt_iff_toInt_lt, Int64.le_iff_toInt_le, ← Int64.toInt_inj, i_l0, i_l1, i_l2, i_l5, i_l19, i_m1, j_l0, j_l1, j_l5, Int32.toInt_toInt64] at *); first | exact absurd (c4.symm.trans c19) (by decide) | exact absurd (c19.symm.trans c4) (by decide) | (simp only [c4, true_or]; done) | (simp only [c4, reduceCtorEq, false_or]; omega)) | exact b2i_0 (by (try simp only [Int32.lt_iff_toInt_lt, Int32.le_iff_toInt_le, ← Int32.toInt_inj, Int64.lt_iff_toInt_lt, Int64.le_iff_toInt_le, ← Int64.toInt_inj, i_l0, i_l1, i_l2, i_l5, i_l19, i_m1, j_l0, j_l1, j_l5, Int32.toInt_toInt64] at *); first | exact absurd (c4.symm.trans c19) (by decide) | exact absurd (c19.symm.trans c4) (by decide) | (simp only [c4, true_or]; done) | (simp only [c4, reduceCtorEq, false_or]; omega))), rfl⟩

set_option maxHeartbeats 4000000 in
set_option maxRecDepth 100000 in
theorem m_empty {G : eG} {ad : Nat → Nat} {h : Nat → va_E} (q : Nat) (r : Int32) (l f u p : Int64) (hq : q < 54) (hh : h q = .inr (3, [.int r, .long l, .long f, .long u, .long p])) : MC G M_X3_empty cX3_empty ad 54 [.ref (ad q)] h (IS none (va_up h q (.inr (3, [.int 0, .long 0, .long 0, .long 0, .long 0])))) := by
  refine MC.of (by decide +kernel) (Nat.le_of_ble_eq_true rfl) (by dsimp only [linit, Nat.reduceSub, List.reduceReplicate] <;> rfl) ?_
  refine EV.aload_n (pc := 0) dX3_empty_0 rfl ?_
  refine EV.iconst (pc := 1) (v := 0) dX3_empty_1 (by decide) ?_
  refine EV.putf (pc := 2) dX3_empty_2 fpX3_7 hq hh rfl rfl (Nat.le_of_ble_eq_true rfl) ?_
  refine EV.aload_n (pc := 5) dX3_empty_5 rfl ?_
  refine EV.lconst (pc := 6) (v := 0) dX3_empty_6 (by decide) ?_
  refine EV.putf (pc := 7) dX3_empty_7 fpX3_13 hq va_up_s rfl rfl (Nat.le_of_ble_eq_true rfl) ?_
  refine EV.aload_n (pc := 10) dX3_empty_10 rfl ?_
  refine EV.lconst (pc := 11) (v := 0) dX3_empty_11 (by decide) ?_
  refine EV.putf (pc := 12) dX3_empty_12 fpX3_17 hq va_up_s rfl rfl (Nat.le_of_ble_eq_true rfl) ?_
  refine EV.aload_n (pc := 15) dX3_empty_15 rfl ?_
  refine EV.lconst (pc := 16) (v := 0) dX3_empty_16 (by decide) ?_
  refine EV.putf (pc := 17) dX3_empty_17 fpX3_20 hq va_up_s rfl rfl (Nat.le_of_ble_eq_true rfl) ?_
  refine EV.aload_n (pc := 20) dX3_empty_20 rfl ?_
  refine EV.lconst (pc := 21) (v := 0) dX3_empty_21 (by decide) ?_
  refine EV.putf (pc := 22) dX3_empty_22 fpX3_23 hq va_up_s rfl rfl (Nat.le_of_ble_eq_true rfl) ?_
  exact EV.vret (pc := 25) dX3_empty_25 trivial ⟨rfl, by simp only [bx_uu]; rfl⟩

set_option maxHeartbeats 4000000 in
set_option maxRecDepth 100000 in
theorem m_take {G : eG} {ad : Nat → Nat} {h : Nat → va_E} (q : Nat) (r : Int32) (l f u p : Int64) (s2 f2 : Int64) (hq : q < 54) (hh : h q = .inr (3, [.int r, .long l, .long f, .long u, .long p])) : MC G M_X3_take cX3_take ad 54 [.ref (ad q), .long s2, .long f2] h (IS none (va_up h q (.inr (3, [.int (r + 1), .long (l + s2), .long (f + f2), .long (u + f2 * f2), .long (p + f2 * s2)])))) := by
  refine MC.of (by decide +kernel) (Nat.le_of_ble_eq_true rfl) (by dsimp only [linit, Nat.reduceSub, List.reduceReplicate] <;> rfl) ?_
  refine EV.aload_n (pc := 0) dX3_take_0 rfl ?_
  refine EV.dup (pc := 1) dX3_take_1 rfl ?_
  refine EV.getf (pc := 2) dX3_take_2 fgX3_7 hq hh rfl ?_
  refine EV.iconst (pc := 5) (v := 1) dX3_take_5 (by decide) ?_
  refine EV.iadd (pc := 6) dX3_take_6 ?_
  refine EV.putf (pc := 7) dX3_take_7 fpX3_7 hq hh rfl rfl (Nat.le_of_ble_eq_true rfl) ?_
  refine EV.aload_n (pc := 10) dX3_take_10 rfl ?_
  refine EV.dup (pc := 11) dX3_take_11 rfl ?_
  refine EV.getf (pc := 12) dX3_take_12 fgX3_13 hq va_up_s rfl ?_
  refine EV.lload_n (pc := 15) dX3_take_15 rfl ?_
  refine EV.ladd (pc := 16) dX3_take_16 ?_
  refine EV.putf (pc := 17) dX3_take_17 fpX3_13 hq va_up_s rfl rfl (Nat.le_of_ble_eq_true rfl) ?_
  refine EV.aload_n (pc := 20) dX3_take_20 rfl ?_
  refine EV.dup (pc := 21) dX3_take_21 rfl ?_
  refine EV.getf (pc := 22) dX3_take_22 fgX3_17 hq va_up_s rfl ?_
  refine EV.lload_n (pc := 25) dX3_take_25 rfl ?_
  refine EV.ladd (pc := 26) dX3_take_26 ?_
  refine EV.putf (pc := 27) dX3_take_27 fpX3_17 hq va_up_s rfl rfl (Nat.le_of_ble_eq_true rfl) ?_
  refine EV.aload_n (pc := 30) dX3_take_30 rfl ?_
  refine EV.dup (pc := 31) dX3_take_31 rfl ?_
  refine EV.getf (pc := 32) dX3_take_32 fgX3_20 hq va_up_s rfl ?_
  refine EV.lload_n (pc := 35) dX3_take_35 rfl ?_
  refine EV.lload_n (pc := 36) dX3_take_36 rfl ?_
  refine EV.lmul (pc := 37) dX3_take_37 ?_
  refine EV.ladd (pc := 38) dX3_take_38 ?_
  refine EV.putf (pc := 39) dX3_take_39 fpX3_20 hq va_up_s rfl rfl (Nat.le_of_ble_eq_true rfl) ?_
  refine EV.aload_n (pc := 42) dX3_take_42 rfl ?_
  refine EV.dup (pc := 43) dX3_take_43 rfl ?_
  refine EV.getf (pc := 44) dX3_take_44 fgX3_23 hq va_up_s rfl ?_
  refine EV.lload_n (pc := 47) dX3_take_47 rfl ?_
  refine EV.lload_n (pc := 48) dX3_take_48 rfl ?_
  refine EV.lmul (pc := 49) dX3_take_49 ?_
  refine EV.ladd (pc := 50) dX3_take_50 ?_
  refine EV.putf (pc := 51) dX3_take_51 fpX3_23 hq va_up_s rfl rfl (Nat.le_of_ble_eq_true rfl) ?_
  exact EV.vret (pc := 54) dX3_take_54 trivial ⟨rfl, by simp only [bx_uu]; rfl⟩

set_option maxHeartbeats 4000000 in
set_option maxRecDepth 100000 in
theorem m_quotient {G : eG} {ad : Nat → Nat} {h : Nat → va_E} (q : Nat) (r : Int32) (l f u p : Int64) (hq : q < 54) (hh : h q = .inr (3, [.int r, .long l, .long f, .long u, .long p])) : MC G M_X3_quotient cX3_quotient ad 54 [.ref (ad q)] h (IS (some (.long (if 0 < u.toInt then jI ((p * f).toInt / u.toInt) else 0))) h) := by
  refine MC.of (by decide +kernel) (Nat.le_of_ble_eq_true rfl) (by dsimp only [linit, Nat.reduceSub, List.reduceReplicate] <;> rfl) ?_
  refine EV.aload_n (pc := 0) dX3_quotient_0 rfl ?_
  refine EV.getf (pc := 1) dX3_quotient_1 fgX3_20 hq hh rfl ?_
  refine EV.lconst (pc := 4) (v := 0) dX3_quotient_4 (by decide) ?_
  refine EV.lcmp_le (pc := 5) (tgt := 28) dX3_quotient_5 dX3_quotient_6 (by decide) (fun c5 => ?_) (fun c5 => ?_)
  · refine EV.lconst (pc := 28) (v := 0) dX3_quotient_28 (by decide) ?_
    refine EV.lret (pc := 29) dX3_quotient_29 trivial ?_
    exact ⟨congrArg (fun z => some (Value.long z)) (by rw [Int64.le_iff_toInt_le, j_l0] at c5; first | (rw [if_pos (by omega)]) | (rw [if_neg (by omega)])), rfl⟩
  · refine EV.aload_n (pc := 9) dX3_quotient_9 rfl ?_
    refine EV.getf (pc := 10) dX3_quotient_10 fgX3_23 hq hh rfl ?_
    refine EV.aload_n (pc := 13) dX3_quotient_13 rfl ?_
    refine EV.getf (pc := 14) dX3_quotient_14 fgX3_17 hq hh rfl ?_
    refine EV.lmul (pc := 17) dX3_quotient_17 ?_
    refine EV.aload_n (pc := 18) dX3_quotient_18 rfl ?_
    refine EV.getf (pc := 19) dX3_quotient_19 fgX3_20 hq hh rfl ?_
    refine EV.callSR1 (pc := 22) (M' := M_J9_floorDiv_f86c9) dX3_quotient_22 lkX3_26 okS_J9_floorDiv_f86c9 (m_floorDivJ _ _ (by rw [Int64.le_iff_toInt_le, j_l0] at c5; omega)) (by decide) rfl rfl (Nat.le_of_ble_eq_true rfl) ?_
    refine EV.goto (pc := 25) (tgt := 29) dX3_quotient_25 (by decide) ?_
    refine EV.lret (pc := 29) dX3_quotient_29 trivial ?_
    exact ⟨congrArg (fun z => some (Value.long z)) (by rw [Int64.le_iff_toInt_le, j_l0] at c5; first | (rw [if_pos (by omega)]) | (rw [if_neg (by omega)])), rfl⟩

def pIn (w w2 : Nat) (x y : Int) : Prop := 0 ≤ x ∧ x < w ∧ 0 ≤ y ∧ y < w2

set_option maxHeartbeats 4000000 in
set_option maxRecDepth 100000 in
theorem m_holds {G : eG} {ad : Nat → Nat} {h : Nat → va_E} (q : Nat) (l : Int32) (la w w2 : Nat) (v : Value) (x y : Int32) (hq : q < 54) (hw : w ≤ 20) (hv : w2 ≤ 20) (hh : h q = .inr (2, [.int l, .int (nI la), .int (nI w), .int (nI w2), v])) : MC G M_X2_holds cX2_holds ad 54 [.ref (ad q), .int x, .int y] h (IS (some (.int (b2i (decide (0 ≤ x.toInt ∧ x.toInt < w ∧ 0 ≤ y.toInt ∧ y.toInt < w2))))) h) := by
  refine MC.of (by decide +kernel) (Nat.le_of_ble_eq_true rfl) (by dsimp only [linit, Nat.reduceSub, List.reduceReplicate] <;> rfl) ?_
  refine EV.iload_n (pc := 0) dX2_holds_0 rfl ?_
  refine EV.if_lt (pc := 1) (tgt := 28) dX2_holds_1 (by decide) (fun c1 => ?_) (fun c1 => ?_)
  · refine EV.iconst (pc := 28) (v := 0) dX2_holds_28 (by decide) ?_
    refine EV.iret (pc := 29) dX2_holds_29 (by rfl) ?_
    exact ⟨congrArg (fun z => some (Value.int z)) (by first | exact b2i_1 (by have e1 := nI_t (show w < 2147483648 by omega); have e2 := nI_t (show w2 < 2147483648 by omega); simp only [Int32.lt_iff_toInt_lt, Int32.le_iff_toInt_le, ← Int32.toInt_inj, Int64.lt_iff_toInt_lt, Int64.le_iff_toInt_le, ← Int64.toInt_inj, i_l0, i_l1, i_l2, i_l5, i_l19, i_m1, j_l0, j_l1, j_l5, Int32.toInt_toInt64, e1, e2] at *; omega) | exact b2i_0 (by have e1 := nI_t (show w < 2147483648 by omega); have e2 := nI_t (show w2 < 2147483648 by omega); simp only [Int32.lt_iff_toInt_lt, Int32.le_iff_toInt_le, ← Int32.toInt_inj, Int64.lt_iff_toInt_lt, Int64.le_iff_toInt_le, ← Int64.toInt_inj, i_l0, i_l1, i_l2, i_l5, i_l19, i_m1, j_l0, j_l1, j_l5, Int32.toInt_toInt64, e1, e2] at *; omega)), rfl⟩
  · refine EV.iload_n (pc := 4) dX2_holds_4 rfl ?_
    refine EV.aload_n (pc := 5) dX2_holds_5 rfl ?_
    refine EV.getf (pc := 6) dX2_holds_6 fgX2_23 hq hh rfl ?_
    refine EV.icmp_ge (pc := 9) (tgt := 28) dX2_holds_9 (by decide) (fun c9 => ?_) (fun c9 => ?_)
    · refine EV.iconst (pc := 28) (v := 0) dX2_holds_28 (by decide) ?_
      refine EV.iret (pc := 29) dX2_holds_29 (by rfl) ?_
      exact ⟨congrArg (fun z => some (Value.int z)) (by first | exact b2i_1 (by have e1 := nI_t (show w < 2147483648 by omega); have e2 := nI_t (show w2 < 2147483648 by omega); simp only [Int32.lt_iff_toInt_lt, Int32.le_iff_toInt_le, ← Int32.toInt_inj, Int64.lt_iff_toInt_lt, Int64.le_iff_toInt_le, ← Int64.toInt_inj, i_l0, i_l1, i_l2, i_l5, i_l19, i_m1, j_l0, j_l1, j_l5, Int32.toInt_toInt64, e1, e2] at *; omega) | exact b2i_0 (by have e1 := nI_t (show w < 2147483648 by omega); have e2 := nI_t (show w2 < 2147483648 by omega); simp only [Int32.lt_iff_toInt_lt, Int32.le_iff_toInt_le, ← Int32.toInt_inj, Int64.lt_iff_toInt_lt, Int64.le_iff_toInt_le, ← Int64.toInt_inj, i_l0, i_l1, i_l2, i_l5, i_l19, i_m1, j_l0, j_l1, j_l5, Int32.toInt_toInt64, e1, e2] at *; omega)), rfl⟩
    · refine EV.iload_n (pc := 12) dX2_holds_12 rfl ?_
      refine EV.if_lt (pc := 13) (tgt := 28) dX2_holds_13 (by decide) (fun c13 => ?_) (fun c13 => ?_)
      · refine EV.iconst (pc := 28) (v := 0) dX2_holds_28 (by decide) ?_
        refine EV.iret (pc := 29) dX2_holds_29 (by rfl) ?_
        exact ⟨congrArg (fun z => some (Value.int z)) (by first | exact b2i_1 (by have e1 := nI_t (show w < 2147483648 by omega); have e2 := nI_t (show w2 < 2147483648 by omega); simp only [Int32.lt_iff_toInt_lt, Int32.le_iff_toInt_le, ← Int32.toInt_inj, Int64.lt_iff_toInt_lt, Int64.le_iff_toInt_le, ← Int64.toInt_inj, i_l0, i_l1, i_l2, i_l5, i_l19, i_m1, j_l0, j_l1, j_l5, Int32.toInt_toInt64, e1, e2] at *; omega) | exact b2i_0 (by have e1 := nI_t (show w < 2147483648 by omega); have e2 := nI_t (show w2 < 2147483648 by omega); simp only [Int32.lt_iff_toInt_lt, Int32.le_iff_toInt_le, ← Int32.toInt_inj, Int64.lt_iff_toInt_lt, Int64.le_iff_toInt_le, ← Int64.toInt_inj, i_l0, i_l1, i_l2, i_l5, i_l19, i_m1, j_l0, j_l1, j_l5, Int32.toInt_toInt64, e1, e2] at *; omega)), rfl⟩
      · refine EV.iload_n (pc := 16) dX2_holds_16 rfl ?_
        refine EV.aload_n (pc := 17) dX2_holds_17 rfl ?_
        refine EV.getf (pc := 18) dX2_holds_18 fgX2_26 hq hh rfl ?_
        refine EV.icmp_ge (pc := 21) (tgt := 28) dX2_holds_21 (by decide) (fun c21 => ?_) (fun c21 => ?_)
        · refine EV.iconst (pc := 28) (v := 0) dX2_holds_28 (by decide) ?_
          refine EV.iret (pc := 29) dX2_holds_29 (by rfl) ?_
          exact ⟨congrArg (fun z => some (Value.int z)) (by first | exact b2i_1 (by have e1 := nI_t (show w < 2147483648 by omega); have e2 := nI_t (show w2 < 2147483648 by omega); simp only [Int32.lt_iff_toInt_lt, Int32.le_iff_toInt_le, ← Int32.toInt_inj, Int64.lt_iff_toInt_lt, Int64.le_iff_toInt_le, ← Int64.toInt_inj, i_l0, i_l1, i_l2, i_l5, i_l19, i_m1, j_l0, j_l1, j_l5, Int32.toInt_toInt64, e1, e2] at *; omega) | exact b2i_0 (by have e1 := nI_t (show w < 2147483648 by omega); have e2 := nI_t (show w2 < 2147483648 by omega); simp only [Int32.lt_iff_toInt_lt, Int32.le_iff_toInt_le, ← Int32.toInt_inj, Int64.lt_iff_toInt_lt, Int64.le_iff_toInt_le, ← Int64.toInt_inj, i_l0, i_l1, i_l2, i_l5, i_l19, i_m1, j_l0, j_l1, j_l5, Int32.toInt_toInt64, e1, e2] at *; omega)), rfl⟩
        · refine EV.iconst (pc := 24) (v := 1) dX2_holds_24 (by decide) ?_
          refine EV.goto (pc := 25) (tgt := 29) dX2_holds_25 (by decide) ?_
          refine EV.iret (pc := 29) dX2_holds_29 (by rfl) ?_
          exact ⟨congrArg (fun z => some (Value.int z)) (by first | exact b2i_1 (by have e1 := nI_t (show w < 2147483648 by omega); have e2 := nI_t (show w2 < 2147483648 by omega); simp only [Int32.lt_iff_toInt_lt, Int32.le_iff_toInt_le, ← Int32.toInt_inj, Int64.lt_iff_toInt_lt, Int64.le_iff_toInt_le, ← Int64.toInt_inj, i_l0, i_l1, i_l2, i_l5, i_l19, i_m1, j_l0, j_l1, j_l5, Int32.toInt_toInt64, e1, e2] at *; omega) | exact b2i_0 (by have e1 := nI_t (show w < 2147483648 by omega); have e2 := nI_t (show w2 < 2147483648 by omega); simp only [Int32.lt_iff_toInt_lt, Int32.le_iff_toInt_le, ← Int32.toInt_inj, Int64.lt_iff_toInt_lt, Int64.le_iff_toInt_le, ← Int64.toInt_inj, i_l0, i_l1, i_l2, i_l5, i_l19, i_m1, j_l0, j_l1, j_l5, Int32.toInt_toInt64, e1, e2] at *; omega)), rfl⟩

def pAt (f : Nat → Int32) (w w2 : Nat) (x y : Int) : Int32 := if 0 ≤ x ∧ x < w ∧ 0 ≤ y ∧ y < w2 then f (y.toNat * 20 + x.toNat) else 0
theorem p_ix {x y : Int32} {w w2 : Nat} (hw : w ≤ 20) (hv : w2 ≤ 20) (hi : 0 ≤ x.toInt ∧ x.toInt < w ∧ 0 ≤ y.toInt ∧ y.toInt < w2) : vp_in (y * 20 + x) 400 ∧ (y * 20 + x).toNatClampNeg = y.toInt.toNat * 20 + x.toInt.toNat := by
  obtain ⟨a, rfl, ea, la⟩ := i_nat hi.1
  obtain ⟨b, rfl, eb, lb⟩ := i_nat hi.2.2.1
  rw [ea, eb] at hi
  rw [nI_at, ea, eb]
  exact ⟨vp_in_nI (by omega) (by omega), nI_clamp (by omega)⟩

set_option maxHeartbeats 4000000 in
set_option maxRecDepth 100000 in
theorem m_pat {G : eG} {ad : Nat → Nat} {h : Nat → va_E} (q r : Nat) (l : Int32) (la w w2 : Nat) (f : Nat → Int32) (x y : Int32) (hq : q < 54) (hr : r < 54) (hw : w ≤ 20) (hv : w2 ≤ 20) (hh : h q = .inr (2, [.int l, .int (nI la), .int (nI w), .int (nI w2), .ref (ad r)])) (hc : h r = .inl (G.2.2 0, 400, .inl f)) : MC G M_X2_at cX2_at ad 54 [.ref (ad q), .int x, .int y] h (IS (some (.int (pAt f w w2 x.toInt y.toInt))) h) := by
  refine MC.of (by decide +kernel) (Nat.le_of_ble_eq_true rfl) (by dsimp only [linit, Nat.reduceSub, List.reduceReplicate] <;> rfl) ?_
  refine EV.aload_n (pc := 0) dX2_at_0 rfl ?_
  refine EV.iload_n (pc := 1) dX2_at_1 rfl ?_
  refine EV.iload_n (pc := 2) dX2_at_2 rfl ?_
  refine EV.callVR1 (pc := 3) (M' := M_X2_holds) dX2_at_3 lkX2_35 okV_X2_holds (m_holds q l la w w2 _ _ _ hq hw hv hh) (by decide) rfl rfl (Nat.le_of_ble_eq_true rfl) hq hh ?_
  refine EV.if_eq (pc := 6) (tgt := 23) dX2_at_6 (by decide) (fun c6 => ?_) (fun c6 => ?_)
  · replace c6 := b2i_F c6
    refine EV.iconst (pc := 23) (v := 0) dX2_at_23 (by decide) ?_
    refine EV.iret (pc := 24) dX2_at_24 trivial ?_
    exact ⟨congrArg (fun z => some (Value.int z)) (by unfold pAt; first | (rw [if_pos c6, (p_ix hw hv c6).2]) | (rw [if_neg c6])), rfl⟩
  · replace c6 := b2i_T c6
    refine EV.aload_n (pc := 9) dX2_at_9 rfl ?_
    refine EV.getf (pc := 10) dX2_at_10 fgX2_15 hq hh rfl ?_
    refine EV.iload_n (pc := 13) dX2_at_13 rfl ?_
    refine EV.bipush (pc := 14) (v := 20) dX2_at_14 (by decide) ?_
    refine EV.imul (pc := 16) dX2_at_16 ?_
    refine EV.iload_n (pc := 17) dX2_at_17 rfl ?_
    refine EV.iadd (pc := 18) dX2_at_18 ?_
    refine EV.iald (pc := 19) dX2_at_19 hr hc (p_ix hw hv c6).1 ?_
    refine EV.goto (pc := 20) (tgt := 24) dX2_at_20 (by decide) ?_
    refine EV.iret (pc := 24) dX2_at_24 trivial ?_
    exact ⟨congrArg (fun z => some (Value.int z)) (by unfold pAt; first | (rw [if_pos c6, (p_ix hw hv c6).2]) | (rw [if_neg c6])), rfl⟩

set_option maxHeartbeats 4000000 in
set_option maxRecDepth 100000 in
theorem m_pset {G : eG} {ad : Nat → Nat} {h : Nat → va_E} (q r : Nat) (l : Int32) (la w w2 : Nat) (f : Nat → Int32) (x y v : Int32) (hq : q < 54) (hr : r < 54) (hw : w ≤ 20) (hv : w2 ≤ 20) (hh : h q = .inr (2, [.int l, .int (nI la), .int (nI w), .int (nI w2), .ref (ad r)])) (hc : h r = .inl (G.2.2 0, 400, .inl f)) (hi : 0 ≤ x.toInt ∧ x.toInt < w ∧ 0 ≤ y.toInt ∧ y.toInt < w2) : MC G M_X2_set cX2_set ad 54 [.ref (ad q), .int x, .int y, .int v] h (IS none (va_up h r (.inl (G.2.2 0, 400, .inl (upd f (y.toInt.toNat * 20 + x.toInt.toNat) (iCast v (nI la))))))) := by
  refine MC.of (by decide +kernel) (Nat.le_of_ble_eq_true rfl) (by dsimp only [linit, Nat.reduceSub, List.reduceReplicate] <;> rfl) ?_
  refine EV.aload_n (pc := 0) dX2_set_0 rfl ?_
  refine EV.iload_n (pc := 1) dX2_set_1 rfl ?_
  refine EV.iload_n (pc := 2) dX2_set_2 rfl ?_
  refine EV.callVR1 (pc := 3) (M' := M_X2_holds) dX2_set_3 lkX2_35 okV_X2_holds (m_holds q l la w w2 _ _ _ hq hw hv hh) (by decide) rfl rfl (Nat.le_of_ble_eq_true rfl) hq hh ?_
  refine EV.if_eq (pc := 6) (tgt := 28) dX2_set_6 (by decide) (fun q => absurd q (fun z => b2i_F z hi)) (fun _ => ?_)
  refine EV.aload_n (pc := 9) dX2_set_9 rfl ?_
  refine EV.getf (pc := 10) dX2_set_10 fgX2_15 hq hh rfl ?_
  refine EV.iload_n (pc := 13) dX2_set_13 rfl ?_
  refine EV.bipush (pc := 14) (v := 20) dX2_set_14 (by decide) ?_
  refine EV.imul (pc := 16) dX2_set_16 ?_
  refine EV.iload_n (pc := 17) dX2_set_17 rfl ?_
  refine EV.iadd (pc := 18) dX2_set_18 ?_
  refine EV.iload_n (pc := 19) dX2_set_19 rfl ?_
  refine EV.aload_n (pc := 20) dX2_set_20 rfl ?_
  refine EV.getf (pc := 21) dX2_set_21 fgX2_19 hq hh rfl ?_
  refine EV.callSN (pc := 24) (M' := M_X4_castToLane) dX2_set_24 nkX2_39 okS_X4_castToLane (m_castToLane _ _) (by decide) rfl rfl (Nat.le_of_ble_eq_true rfl) ?_
  refine EV.iast (pc := 27) dX2_set_27 hr hc (p_ix hw hv hi).1 ?_
  exact EV.vret (pc := 28) dX2_set_28 trivial ⟨rfl, by rw [(p_ix hw hv hi).2]⟩

theorem l_light (v : Int32) : (if (0 : Int32).toInt < (if v.toInt < (100000 : Int32).toInt then v else 100000 : Int32).toInt then (if v.toInt < (100000 : Int32).toInt then v else 100000 : Int32) else 0).toInt64 = jI (lBnd v) := by
  have e : (100000 : Int32).toInt = 100000 := by decide +kernel
  rw [i_l, i_l0, e]
  unfold lBnd
  by_cases h1 : v.toInt < 100000
  · rw [if_pos h1]
    by_cases h2 : 0 < v.toInt
    · rw [if_pos h2, if_neg (by omega), if_neg (by omega)]
    · rw [if_neg h2, i_l0]
      by_cases h3 : v.toInt < 0
      · rw [if_pos h3]
      · rw [if_neg h3, if_neg (by omega)]; congr 1; omega
  · rw [if_neg h1, if_pos (by rw [e]; decide), e, if_neg (by omega)]
    by_cases h4 : 100000 < v.toInt
    · rw [if_pos h4]
    · rw [if_neg h4]; congr 1; omega

set_option maxHeartbeats 4000000 in
set_option maxRecDepth 100000 in
theorem m_plight {G : eG} {ad : Nat → Nat} {h : Nat → va_E} (q r : Nat) (l : Int32) (la w w2 : Nat) (f : Nat → Int32) (x y : Int32) (hq : q < 54) (hr : r < 54) (hw : w ≤ 20) (hv : w2 ≤ 20) (hh : h q = .inr (2, [.int l, .int (nI la), .int (nI w), .int (nI w2), .ref (ad r)])) (hc : h r = .inl (G.2.2 0, 400, .inl f)) : MC G M_X2_lightAt cX2_lightAt ad 54 [.ref (ad q), .int x, .int y] h (IS (some (.long (jI (lBnd (pAt f w w2 x.toInt y.toInt))))) h) := by
  refine MC.of (by decide +kernel) (Nat.le_of_ble_eq_true rfl) (by dsimp only [linit, Nat.reduceSub, List.reduceReplicate] <;> rfl) ?_
  refine EV.iconst (pc := 0) (v := 0) dX2_lightAt_0 (by decide) ?_
  refine EV.ldc (pc := 1) dX2_lightAt_1 kcX2_43 ?_
  refine EV.aload_n (pc := 3) dX2_lightAt_3 rfl ?_
  refine EV.iload_n (pc := 4) dX2_lightAt_4 rfl ?_
  refine EV.iload_n (pc := 5) dX2_lightAt_5 rfl ?_
  refine EV.callVR1 (pc := 6) (M' := M_X2_at) dX2_lightAt_6 lkX2_44 okV_X2_at (m_pat q r l la w w2 f _ _ hq hr hw hv hh hc) (by decide) rfl rfl (Nat.le_of_ble_eq_true rfl) hq hh ?_
  refine EV.callSR1 (pc := 9) (M' := M_J9_min_7cf53) dX2_lightAt_9 lkX2_47 okS_J9_min_7cf53 (m_min _ _) (by decide) rfl rfl (Nat.le_of_ble_eq_true rfl) ?_
  refine EV.callSR1 (pc := 12) (M' := M_J9_max_7cf53) dX2_lightAt_12 lkX2_52 okS_J9_max_7cf53 (m_max _ _) (by decide) rfl rfl (Nat.le_of_ble_eq_true rfl) ?_
  refine EV.i2l (pc := 15) dX2_lightAt_15 ?_
  refine EV.lret (pc := 16) dX2_lightAt_16 trivial ?_
  exact ⟨congrArg (fun z => some (Value.long z)) (by exact l_light _), rfl⟩

set_option maxHeartbeats 4000000 in
set_option maxRecDepth 100000 in
theorem m_alike {G : eG} {ad : Nat → Nat} {h : Nat → va_E} (q q2 : Nat) (l l2 : Int32) (la w w2 la2 u u2 : Nat) (v v2 : Value) (hq : q < 54) (hq2 : q2 < 54) (hw : w ≤ 20) (hv : w2 ≤ 20) (hu : u ≤ 20) (hu2 : u2 ≤ 20) (hh : h q = .inr (2, [.int l, .int (nI la), .int (nI w), .int (nI w2), v])) (hh2 : h q2 = .inr (2, [.int l2, .int (nI la2), .int (nI u), .int (nI u2), v2])) : MC G M_X2_alike cX2_alike ad 54 [.ref (ad q), .ref (ad q2)] h (IS (some (.int (b2i (decide (w = u ∧ w2 = u2))))) h) := by
  refine MC.of (by decide +kernel) (Nat.le_of_ble_eq_true rfl) (by dsimp only [linit, Nat.reduceSub, List.reduceReplicate] <;> rfl) ?_
  refine EV.aload_n (pc := 0) dX2_alike_0 rfl ?_
  refine EV.getf (pc := 1) dX2_alike_1 fgX2_23 hq hh rfl ?_
  refine EV.aload_n (pc := 4) dX2_alike_4 rfl ?_
  refine EV.getf (pc := 5) dX2_alike_5 fgX2_23 hq2 hh2 rfl ?_
  refine EV.icmp_ne (pc := 8) (tgt := 26) dX2_alike_8 (by decide) (fun c8 => ?_) (fun c8 => ?_)
  · refine EV.iconst (pc := 26) (v := 0) dX2_alike_26 (by decide) ?_
    refine EV.iret (pc := 27) dX2_alike_27 (by rfl) ?_
    exact ⟨congrArg (fun z => some (Value.int z)) (by first | exact b2i_1 (by have e1 := nI_t (show w < 2147483648 by omega); have e2 := nI_t (show w2 < 2147483648 by omega); have e3 := nI_t (show u < 2147483648 by omega); have e4 := nI_t (show u2 < 2147483648 by omega); simp only [Int32.lt_iff_toInt_lt, Int32.le_iff_toInt_le, ← Int32.toInt_inj, Int64.lt_iff_toInt_lt, Int64.le_iff_toInt_le, ← Int64.toInt_inj, i_l0, i_l1, i_l2, i_l5, i_l19, i_m1, j_l0, j_l1, j_l5, Int32.toInt_toInt64, e1, e2, e3, e4] at *; omega) | exact b2i_0 (by have e1 := nI_t (show w < 2147483648 by omega); have e2 := nI_t (show w2 < 2147483648 by omega); have e3 := nI_t (show u < 2147483648 by omega); have e4 := nI_t (show u2 < 2147483648 by omega); simp only [Int32.lt_iff_toInt_lt, Int32.le_iff_toInt_le, ← Int32.toInt_inj, Int64.lt_iff_toInt_lt, Int64.le_iff_toInt_le, ← Int64.toInt_inj, i_l0, i_l1, i_l2, i_l5, i_l19, i_m1, j_l0, j_l1, j_l5, Int32.toInt_toInt64, e1, e2, e3, e4] at *; omega)), rfl⟩
  · refine EV.aload_n (pc := 11) dX2_alike_11 rfl ?_
    refine EV.getf (pc := 12) dX2_alike_12 fgX2_26 hq hh rfl ?_
    refine EV.aload_n (pc := 15) dX2_alike_15 rfl ?_
    refine EV.getf (pc := 16) dX2_alike_16 fgX2_26 hq2 hh2 rfl ?_
    refine EV.icmp_ne (pc := 19) (tgt := 26) dX2_alike_19 (by decide) (fun c19 => ?_) (fun c19 => ?_)
    · refine EV.iconst (pc := 26) (v := 0) dX2_alike_26 (by decide) ?_
      refine EV.iret (pc := 27) dX2_alike_27 (by rfl) ?_
      exact ⟨congrArg (fun z => some (Value.int z)) (by first | exact b2i_1 (by have e1 := nI_t (show w < 2147483648 by omega); have e2 := nI_t (show w2 < 2147483648 by omega); have e3 := nI_t (show u < 2147483648 by omega); have e4 := nI_t (show u2 < 2147483648 by omega); simp only [Int32.lt_iff_toInt_lt, Int32.le_iff_toInt_le, ← Int32.toInt_inj, Int64.lt_iff_toInt_lt, Int64.le_iff_toInt_le, ← Int64.toInt_inj, i_l0, i_l1, i_l2, i_l5, i_l19, i_m1, j_l0, j_l1, j_l5, Int32.toInt_toInt64, e1, e2, e3, e4] at *; omega) | exact b2i_0 (by have e1 := nI_t (show w < 2147483648 by omega); have e2 := nI_t (show w2 < 2147483648 by omega); have e3 := nI_t (show u < 2147483648 by omega); have e4 := nI_t (show u2 < 2147483648 by omega); simp only [Int32.lt_iff_toInt_lt, Int32.le_iff_toInt_le, ← Int32.toInt_inj, Int64.lt_iff_toInt_lt, Int64.le_iff_toInt_le, ← Int64.toInt_inj, i_l0, i_l1, i_l2, i_l5, i_l19, i_m1, j_l0, j_l1, j_l5, Int32.toInt_toInt64, e1, e2, e3, e4] at *; omega)), rfl⟩
    · refine EV.iconst (pc := 22) (v := 1) dX2_alike_22 (by decide) ?_
      refine EV.goto (pc := 23) (tgt := 27) dX2_alike_23 (by decide) ?_
      refine EV.iret (pc := 27) dX2_alike_27 (by rfl) ?_
      exact ⟨congrArg (fun z => some (Value.int z)) (by first | exact b2i_1 (by have e1 := nI_t (show w < 2147483648 by omega); have e2 := nI_t (show w2 < 2147483648 by omega); have e3 := nI_t (show u < 2147483648 by omega); have e4 := nI_t (show u2 < 2147483648 by omega); simp only [Int32.lt_iff_toInt_lt, Int32.le_iff_toInt_le, ← Int32.toInt_inj, Int64.lt_iff_toInt_lt, Int64.le_iff_toInt_le, ← Int64.toInt_inj, i_l0, i_l1, i_l2, i_l5, i_l19, i_m1, j_l0, j_l1, j_l5, Int32.toInt_toInt64, e1, e2, e3, e4] at *; omega) | exact b2i_0 (by have e1 := nI_t (show w < 2147483648 by omega); have e2 := nI_t (show w2 < 2147483648 by omega); have e3 := nI_t (show u < 2147483648 by omega); have e4 := nI_t (show u2 < 2147483648 by omega); simp only [Int32.lt_iff_toInt_lt, Int32.le_iff_toInt_le, ← Int32.toInt_inj, Int64.lt_iff_toInt_lt, Int64.le_iff_toInt_le, ← Int64.toInt_inj, i_l0, i_l1, i_l2, i_l5, i_l19, i_m1, j_l0, j_l1, j_l5, Int32.toInt_toInt64, e1, e2, e3, e4] at *; omega)), rfl⟩

def fz (f : Nat → Int32) (i : Nat) : Nat → Int32 := fun k => if k < i then 0 else f k
theorem fz_s (f : Nat → Int32) (i : Nat) : upd (fz f i) i 0 = fz f (i + 1) := by
  funext k
  simp only [upd, fz]
  by_cases h1 : k = i
  · subst h1; simp
  · by_cases h2 : k < i
    · rw [if_neg h1, if_pos h2, if_pos (by omega)]
    · rw [if_neg h1, if_neg h2, if_neg (by omega)]

set_option maxHeartbeats 4000000 in
set_option maxRecDepth 100000 in
theorem m_fill_loop {G : eG} {ad : Nat → Nat} {h : Nat → va_E} (r : Nat) (f : Nat → Int32) (hr : r < 54) (hc : h r = .inl (G.2.2 0, 400, .inl f)) : ∀ (n i : Nat), i + n = 400 → EV G M_J7_fill_53178 cJ7_fill_53178 none ad 54 (IS none (va_up h r (.inl (G.2.2 0, 400, .inl (fz f 400))))) 5 [some (.ref (ad r)), some (.int 0), some (.int (nI i)), some (.int 400)] [] (va_up h r (.inl (G.2.2 0, 400, .inl (fz f i)))) := by
  intro n
  induction n with
  | zero =>
    intro i hi
    have e : i = 400 := by omega
    subst e
    refine EV.iload_n (pc := 5) dJ7_fill_53178_5 rfl ?_
    refine EV.iload_n (pc := 6) dJ7_fill_53178_6 rfl ?_
    refine EV.icmp_ge (pc := 7) (tgt := 20) dJ7_fill_53178_7 (by decide) (fun _ => ?_) (fun q => absurd (by decide) q)
    exact EV.vret (pc := 20) dJ7_fill_53178_20 trivial ⟨rfl, rfl⟩
  | succ n ih =>
    intro i hi
    refine EV.iload_n (pc := 5) dJ7_fill_53178_5 rfl ?_
    refine EV.iload_n (pc := 6) dJ7_fill_53178_6 rfl ?_
    refine EV.icmp_ge (pc := 7) (tgt := 20) dJ7_fill_53178_7 (by decide) (fun q => absurd q (by rw [show (400 : Int32) = nI 400 from rfl]; exact fun z => absurd ((nI_leI (by omega) (by omega)).mp z) (by omega))) (fun _ => ?_)
    refine EV.aload_n (pc := 10) dJ7_fill_53178_10 rfl ?_
    refine EV.iload_n (pc := 11) dJ7_fill_53178_11 rfl ?_
    refine EV.iload_n (pc := 12) dJ7_fill_53178_12 rfl ?_
    refine EV.iast (pc := 13) dJ7_fill_53178_13 hr va_up_s (vp_in_nI (by omega) (by omega)) ?_
    rw [bx_uu, nI_clamp (by omega), fz_s]
    refine EV.iinc (pc := 14) dJ7_fill_53178_14 (by decide) rfl (by first | exact nI_inc _ | rfl) (by dsimp only [lst1, lk] <;> rfl) ?_
    refine EV.goto (pc := 17) (tgt := 5) dJ7_fill_53178_17 (by decide) ?_
    exact ih (i + 1) (by omega)

set_option maxHeartbeats 4000000 in
set_option maxRecDepth 100000 in
theorem m_fill {G : eG} {ad : Nat → Nat} {h : Nat → va_E} (r : Nat) (f : Nat → Int32) (hr : r < 54) (hc : h r = .inl (G.2.2 0, 400, .inl f)) : MC G M_J7_fill_53178 cJ7_fill_53178 ad 54 [.ref (ad r), .int 0] h (IS none (va_up h r (.inl (G.2.2 0, 400, .inl (fz f 400))))) := by
  refine MC.of (by decide +kernel) (Nat.le_of_ble_eq_true rfl) (by dsimp only [linit, Nat.reduceSub, List.reduceReplicate] <;> rfl) ?_
  refine EV.iconst (pc := 0) (v := 0) dJ7_fill_53178_0 (by decide) ?_
  refine EV.istore_n (pc := 1) 2 dJ7_fill_53178_1 rfl (by decide) (by dsimp only [lst1, lk] <;> rfl) ?_
  refine EV.aload_n (pc := 2) dJ7_fill_53178_2 rfl ?_
  refine EV.alen (pc := 3) (t0 := 0) dJ7_fill_53178_3 rfl hr hc (v := 400) rfl ?_
  refine EV.istore_n (pc := 4) 3 dJ7_fill_53178_4 rfl (by decide) (by dsimp only [lst1, lk] <;> rfl) ?_
  refine EV.heap (h' := va_up h r (.inl (G.2.2 0, 400, .inl (fz f 0)))) ?_ (m_fill_loop r f hr hc 400 0 rfl)
  funext k
  by_cases e : k = r
  · subst e; rw [va_up_s, hc]; congr 4
  · rw [va_up_n e]

set_option maxHeartbeats 4000000 in
set_option maxRecDepth 100000 in
theorem m_renew {G : eG} {ad : Nat → Nat} {h : Nat → va_E} (q r : Nat) (l a1 a2 a3 : Int32) (f : Nat → Int32) (b1 b2 b3 : Int32) (hq : q < 54) (hr : r < 54) (hqr : q ≠ r) (hh : h q = .inr (2, [.int l, .int a1, .int a2, .int a3, .ref (ad r)])) (hc : h r = .inl (G.2.2 0, 400, .inl f)) : MC G M_X2_renew cX2_renew ad 54 [.ref (ad q), .int b1, .int b2, .int b3] h (IS none (va_up (va_up h q (.inr (2, [.int 0, .int b1, .int b2, .int b3, .ref (ad r)]))) r (.inl (G.2.2 0, 400, .inl (fz f 400))))) := by
  refine MC.of (by decide +kernel) (Nat.le_of_ble_eq_true rfl) (by dsimp only [linit, Nat.reduceSub, List.reduceReplicate] <;> rfl) ?_
  refine EV.aload_n (pc := 0) dX2_renew_0 rfl ?_
  refine EV.iconst (pc := 1) (v := 0) dX2_renew_1 (by decide) ?_
  refine EV.putf (pc := 2) dX2_renew_2 fpX2_9 hq hh rfl rfl (Nat.le_of_ble_eq_true rfl) ?_
  refine EV.aload_n (pc := 5) dX2_renew_5 rfl ?_
  refine EV.iload_n (pc := 6) dX2_renew_6 rfl ?_
  refine EV.putf (pc := 7) dX2_renew_7 fpX2_19 hq va_up_s rfl rfl (Nat.le_of_ble_eq_true rfl) ?_
  refine EV.aload_n (pc := 10) dX2_renew_10 rfl ?_
  refine EV.iload_n (pc := 11) dX2_renew_11 rfl ?_
  refine EV.putf (pc := 12) dX2_renew_12 fpX2_23 hq va_up_s rfl rfl (Nat.le_of_ble_eq_true rfl) ?_
  refine EV.aload_n (pc := 15) dX2_renew_15 rfl ?_
  refine EV.iload_n (pc := 16) dX2_renew_16 rfl ?_
  refine EV.putf (pc := 17) dX2_renew_17 fpX2_26 hq va_up_s rfl rfl (Nat.le_of_ble_eq_true rfl) ?_
  refine EV.aload_n (pc := 20) dX2_renew_20 rfl ?_
  refine EV.getf (pc := 21) dX2_renew_21 fgX2_15 hq va_up_s rfl ?_
  refine EV.iconst (pc := 24) (v := 0) dX2_renew_24 (by decide) ?_
  refine EV.callSR0 (pc := 25) (M' := M_J7_fill_53178) dX2_renew_25 lkX2_29 okS_J7_fill_53178 (m_fill r f hr ((va_up_n (Ne.symm hqr)).trans ((va_up_n (Ne.symm hqr)).trans ((va_up_n (Ne.symm hqr)).trans ((va_up_n (Ne.symm hqr)).trans hc))))) (by decide) rfl rfl (Nat.le_of_ble_eq_true rfl) ?_
  exact EV.vret (pc := 28) dX2_renew_28 trivial ⟨rfl, by simp only [bx_uu]; rfl⟩

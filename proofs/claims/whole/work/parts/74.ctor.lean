theorem NV.swap {G : eG} {M : eM} {cc : ByteArray} {X : Option (Nat × Nat × (Nat → Int32))} {post : nP} {kc ks : Nat} {ws : va_W} {pc : Nat} {lv : List (Option Value)} {st : List Value} {k a : Nat} {cA : ClassId} {x x' : vp_A} (hq : ws[k]? = some (a, .inl (cA, x))) (he : vp_cell cA x' = vp_cell cA x) (kk : NV G M cc X post kc ks (ws.set k (a, .inl (cA, x'))) pc lv st) : NV G M cc X post kc ks ws pc lv st := by
  intro p e R s m args below meth c A cells slots Q H locs ls hC hN hX hR hP hD hS hl
  have h1 : va_at G.2.1 vwCl (a, .inl (cA, x)) H := hP k _ hq
  have h2 : va_at G.2.1 vwCl (a, .inl (cA, x')) H := by
    show H[a]? = some (vp_cell cA x')
    rw [he]
    exact h1
  exact kk p e R s m args below meth c A cells slots Q H locs ls hC hN hX hR (hP.set hD hq h2 (fun _ _ => rfl)) (hD.set hq) hS hl
theorem arrV_c {cI : ClassId} {N : Nat} {f g : Nat → Value} (h : ∀ j, j < N → f j = g j) : arrV cI N f = arrV cI N g := by
  unfold arrV
  have e : (fun j : Fin N => f j.val) = fun j => g j.val := by
    funext j
    exact h j.val j.isLt
  rw [e]
theorem cell_c {cA : ClassId} {N : Nat} {f g : Nat → Option Nat} (h : ∀ j, j < N → f j = g j) : vp_cell cA (N, .inr (.inr (.inr (.inr f)))) = vp_cell cA (N, .inr (.inr (.inr (.inr g)))) := by
  rw [vp_cell_q, vp_cell_q]
  exact arrV_c (fun j hj => by rw [h j hj])

theorem wA_z : Cond.arrayClass .boolean ∈ eT := eT_at 81 (by decide +kernel)
theorem wA_i : Cond.arrayClass .int ∈ eT := eT_at 82 (by decide +kernel)
theorem wA_j : Cond.arrayClass .long ∈ eT := eT_at 83 (by decide +kernel)
theorem oiI : Cond.instanceMethod Lib.objectInit ∈ eT := eT_at 50 (by decide +kernel)
theorem oiC : Cond.code Lib.objectInit ⟨#[0xb1]⟩ 1 none ∈ eT := eT_at 51 (by decide +kernel)
theorem oiX0 : Cond.methodLink RX0 3 Lib.objectInit ∈ eT := eT_at 138 (by decide +kernel)
theorem imX0 : Cond.instanceMethod yX0_init ∈ eT := eT_at 136 (by decide +kernel)
theorem oiX1 : Cond.methodLink RX1 1 Lib.objectInit ∈ eT := eT_at 89 (by decide +kernel)
theorem imX1 : Cond.instanceMethod yX1_init ∈ eT := eT_at 87 (by decide +kernel)
theorem oiX2 : Cond.methodLink RX2 3 Lib.objectInit ∈ eT := eT_at 111 (by decide +kernel)
theorem imX2 : Cond.instanceMethod yX2_init ∈ eT := eT_at 109 (by decide +kernel)
theorem oiX3 : Cond.methodLink RX3 1 Lib.objectInit ∈ eT := eT_at 61 (by decide +kernel)
theorem imX3 : Cond.instanceMethod yX3_init ∈ eT := eT_at 59 (by decide +kernel)
theorem oiX4 : Cond.methodLink RX4 1 Lib.objectInit ∈ eT := eT_at 49 (by decide +kernel)
theorem imX4 : Cond.instanceMethod yX4_init ∈ eT := eT_at 47 (by decide +kernel)
theorem oiX5 : Cond.methodLink RX5 1 Lib.objectInit ∈ eT := eT_at 556 (by decide +kernel)
theorem imX5 : Cond.instanceMethod yX5_init ∈ eT := eT_at 554 (by decide +kernel)
theorem clX4_9 : Cond.classLink RX4 9 RX2 ∈ eT := eT_at 52 (by decide +kernel)
theorem nwX4_9 : okN RX4 9 2 5 [.int 0, .int 0, .int 0, .int 0, .null] := ⟨RX2, TX2, tyX2, rfl, inTX2, tyX2_ok, clX4_9, eT_at 107 (by decide +kernel), eT_at 39 (by decide +kernel), fun j hj => match j, hj with | 0, _ => rfl | 1, _ => rfl | 2, _ => rfl | 3, _ => rfl | 4, _ => rfl | j + 5, h => absurd h (by omega)⟩
theorem clX4_19 : Cond.classLink RX4 19 RX0 ∈ eT := eT_at 54 (by decide +kernel)
theorem nwX4_19 : okN RX4 19 0 6 [.int 0, .int 0, .int 0, .int 0, .null, .null] := ⟨RX0, TX0, tyX0, rfl, inTX0, tyX0_ok, clX4_19, eT_at 134 (by decide +kernel), eT_at 40 (by decide +kernel), fun j hj => match j, hj with | 0, _ => rfl | 1, _ => rfl | 2, _ => rfl | 3, _ => rfl | 4, _ => rfl | 5, _ => rfl | j + 6, h => absurd h (by omega)⟩
theorem clX4_39 : Cond.classLink RX4 39 RX3 ∈ eT := eT_at 56 (by decide +kernel)
theorem nwX4_39 : okN RX4 39 3 5 [.int 0, .long 0, .long 0, .long 0, .long 0] := ⟨RX3, TX3, tyX3, rfl, inTX3, tyX3_ok, clX4_39, eT_at 57 (by decide +kernel), eT_at 37 (by decide +kernel), fun j hj => match j, hj with | 0, _ => rfl | 1, _ => rfl | 2, _ => rfl | 3, _ => rfl | 4, _ => rfl | j + 5, h => absurd h (by omega)⟩
theorem clX4_46 : Cond.classLink RX4 46 RX1 ∈ eT := eT_at 84 (by decide +kernel)
theorem nwX4_46 : okN RX4 46 1 4 [.int 0, .int 0, .int 0, .int 0] := ⟨RX1, TX1, tyX1, rfl, inTX1, tyX1_ok, clX4_46, eT_at 85 (by decide +kernel), eT_at 38 (by decide +kernel), fun j hj => match j, hj with | 0, _ => rfl | 1, _ => rfl | 2, _ => rfl | 3, _ => rfl | j + 4, h => absurd h (by omega)⟩
theorem clX0_15 : Cond.classLink RX0 15 RX1 ∈ eT := eT_at 139 (by decide +kernel)
theorem nwX0_15 : okN RX0 15 1 4 [.int 0, .int 0, .int 0, .int 0] := ⟨RX1, TX1, tyX1, rfl, inTX1, tyX1_ok, clX0_15, eT_at 85 (by decide +kernel), eT_at 38 (by decide +kernel), fun j hj => match j, hj with | 0, _ => rfl | 1, _ => rfl | 2, _ => rfl | 3, _ => rfl | j + 4, h => absurd h (by omega)⟩
theorem clL_7 : Cond.classLink RL 7 RX4 ∈ eT := eT_at 44 (by decide +kernel)
theorem nwL_7 : okN RL 7 4 15 [.null, .null, .null, .int 0, .null, .int 0, .null, .int 0, .int 0, .int 0, .null, .int 0, .null, .null, .null] := ⟨RX4, TX4, tyX4, rfl, inTX4, tyX4_ok, clL_7, eT_at 45 (by decide +kernel), eT_at 36 (by decide +kernel), fun j hj => match j, hj with | 0, _ => rfl | 1, _ => rfl | 2, _ => rfl | 3, _ => rfl | 4, _ => rfl | 5, _ => rfl | 6, _ => rfl | 7, _ => rfl | 8, _ => rfl | 9, _ => rfl | 10, _ => rfl | 11, _ => rfl | 12, _ => rfl | 13, _ => rfl | 14, _ => rfl | j + 15, h => absurd h (by omega)⟩
theorem clL_10 : Cond.classLink RL 10 RX5 ∈ eT := eT_at 551 (by decide +kernel)
theorem nwL_10 : okN RL 10 5 30 [.null, .null, .null, .null, .null, .null, .int 0, .null, .null, .null, .null, .null, .null, .null, .null, .null, .int 0, .null, .int 0, .int 0, .null, .int 0, .int 0, .null, .int 0, .null, .int 0, .long 0, .long 0, .long 0] := ⟨RX5, TX5, tyX5, rfl, inTX5, tyX5_ok, clL_10, eT_at 552 (by decide +kernel), eT_at 41 (by decide +kernel), fun j hj => match j, hj with | 0, _ => rfl | 1, _ => rfl | 2, _ => rfl | 3, _ => rfl | 4, _ => rfl | 5, _ => rfl | 6, _ => rfl | 7, _ => rfl | 8, _ => rfl | 9, _ => rfl | 10, _ => rfl | 11, _ => rfl | 12, _ => rfl | 13, _ => rfl | 14, _ => rfl | 15, _ => rfl | 16, _ => rfl | 17, _ => rfl | 18, _ => rfl | 19, _ => rfl | 20, _ => rfl | 21, _ => rfl | 22, _ => rfl | 23, _ => rfl | 24, _ => rfl | 25, _ => rfl | 26, _ => rfl | 27, _ => rfl | 28, _ => rfl | 29, _ => rfl | j + 30, h => absurd h (by omega)⟩
theorem fqX4_11 : okQ RX4 11 4 0 (.array (.object "CombedLight$Plate")) := ⟨RX4, TX4, 15, tyX4, rfl, by decide, inTX4, flX4_11, rfl, tyX4_ok, nmX4, rfl, by decide +kernel, rfl⟩
theorem fqX4_15 : okQ RX4 15 4 1 (.array .boolean) := ⟨RX4, TX4, 15, tyX4, rfl, by decide, inTX4, flX4_15, rfl, tyX4_ok, nmX4, rfl, by decide +kernel, rfl⟩
theorem fqX4_21 : okQ RX4 21 4 2 (.array (.object "CombedLight$Comb")) := ⟨RX4, TX4, 15, tyX4, rfl, by decide, inTX4, flX4_21, rfl, tyX4_ok, nmX4, rfl, by decide +kernel, rfl⟩
theorem fqX4_25 : okQ RX4 25 4 4 (.array .int) := ⟨RX4, TX4, 15, tyX4, rfl, by decide, inTX4, flX4_25, rfl, tyX4_ok, nmX4, rfl, by decide +kernel, rfl⟩
theorem fqX4_29 : okQ RX4 29 4 6 (.array .long) := ⟨RX4, TX4, 15, tyX4, rfl, by decide, inTX4, flX4_29, rfl, tyX4_ok, nmX4, rfl, by decide +kernel, rfl⟩
theorem fqX4_33 : okQ RX4 33 4 10 (.array .int) := ⟨RX4, TX4, 15, tyX4, rfl, by decide, inTX4, flX4_33, rfl, tyX4_ok, nmX4, rfl, by decide +kernel, rfl⟩
theorem fqX4_36 : okQ RX4 36 4 12 (.array .int) := ⟨RX4, TX4, 15, tyX4, rfl, by decide, inTX4, flX4_36, rfl, tyX4_ok, nmX4, rfl, by decide +kernel, rfl⟩
theorem fqX4_42 : okQ RX4 42 4 13 (.object "CombedLight$Sums") := ⟨RX4, TX4, 15, tyX4, rfl, by decide, inTX4, flX4_42, rfl, tyX4_ok, nmX4, rfl, by decide +kernel, rfl⟩
theorem fqX4_49 : okQ RX4 49 4 14 (.object "CombedLight$Law") := ⟨RX4, TX4, 15, tyX4, rfl, by decide, inTX4, flX4_49, rfl, tyX4_ok, nmX4, rfl, by decide +kernel, rfl⟩
theorem fqX0_9 : okQ RX0 9 0 4 (.array .long) := ⟨RX0, TX0, 6, tyX0, rfl, by decide, inTX0, flX0_9, rfl, tyX0_ok, nmX0, rfl, by decide +kernel, rfl⟩
theorem fqX0_18 : okQ RX0 18 0 5 (.object "CombedLight$Law") := ⟨RX0, TX0, 6, tyX0, rfl, by decide, inTX0, flX0_18, rfl, tyX0_ok, nmX0, rfl, by decide +kernel, rfl⟩
theorem fqX2_15 : okQ RX2 15 2 4 (.array .int) := ⟨RX2, TX2, 5, tyX2, rfl, by decide, inTX2, flX2_15, rfl, tyX2_ok, nmX2, rfl, by decide +kernel, rfl⟩
theorem fqX5_7 : okQ RX5 7 5 0 (.array .boolean) := ⟨RX5, TX5, 30, tyX5, rfl, by decide, inTX5, flX5_7, rfl, tyX5_ok, nmX5, rfl, by decide +kernel, rfl⟩
theorem fqX5_13 : okQ RX5 13 5 1 (.array .int) := ⟨RX5, TX5, 30, tyX5, rfl, by decide, inTX5, flX5_13, rfl, tyX5_ok, nmX5, rfl, by decide +kernel, rfl⟩
theorem fqX5_17 : okQ RX5 17 5 2 (.array .int) := ⟨RX5, TX5, 30, tyX5, rfl, by decide, inTX5, flX5_17, rfl, tyX5_ok, nmX5, rfl, by decide +kernel, rfl⟩
theorem fqX5_20 : okQ RX5 20 5 3 (.array .int) := ⟨RX5, TX5, 30, tyX5, rfl, by decide, inTX5, flX5_20, rfl, tyX5_ok, nmX5, rfl, by decide +kernel, rfl⟩
theorem fqX5_23 : okQ RX5 23 5 4 (.array .int) := ⟨RX5, TX5, 30, tyX5, rfl, by decide, inTX5, flX5_23, rfl, tyX5_ok, nmX5, rfl, by decide +kernel, rfl⟩
theorem fqX5_26 : okQ RX5 26 5 5 (.array .boolean) := ⟨RX5, TX5, 30, tyX5, rfl, by decide, inTX5, flX5_26, rfl, tyX5_ok, nmX5, rfl, by decide +kernel, rfl⟩
theorem fqX5_29 : okQ RX5 29 5 7 (.array .int) := ⟨RX5, TX5, 30, tyX5, rfl, by decide, inTX5, flX5_29, rfl, tyX5_ok, nmX5, rfl, by decide +kernel, rfl⟩
theorem fqX5_32 : okQ RX5 32 5 8 (.array .int) := ⟨RX5, TX5, 30, tyX5, rfl, by decide, inTX5, flX5_32, rfl, tyX5_ok, nmX5, rfl, by decide +kernel, rfl⟩
theorem fqX5_35 : okQ RX5 35 5 9 (.array .int) := ⟨RX5, TX5, 30, tyX5, rfl, by decide, inTX5, flX5_35, rfl, tyX5_ok, nmX5, rfl, by decide +kernel, rfl⟩
theorem fqX5_38 : okQ RX5 38 5 10 (.array .int) := ⟨RX5, TX5, 30, tyX5, rfl, by decide, inTX5, flX5_38, rfl, tyX5_ok, nmX5, rfl, by decide +kernel, rfl⟩
theorem fqX5_41 : okQ RX5 41 5 11 (.array .long) := ⟨RX5, TX5, 30, tyX5, rfl, by decide, inTX5, flX5_41, rfl, tyX5_ok, nmX5, rfl, by decide +kernel, rfl⟩
theorem fqX5_45 : okQ RX5 45 5 12 (.array .boolean) := ⟨RX5, TX5, 30, tyX5, rfl, by decide, inTX5, flX5_45, rfl, tyX5_ok, nmX5, rfl, by decide +kernel, rfl⟩
theorem fqX5_48 : okQ RX5 48 5 13 (.array .int) := ⟨RX5, TX5, 30, tyX5, rfl, by decide, inTX5, flX5_48, rfl, tyX5_ok, nmX5, rfl, by decide +kernel, rfl⟩
theorem fqX5_51 : okQ RX5 51 5 14 (.array .int) := ⟨RX5, TX5, 30, tyX5, rfl, by decide, inTX5, flX5_51, rfl, tyX5_ok, nmX5, rfl, by decide +kernel, rfl⟩
theorem fqX5_54 : okQ RX5 54 5 15 (.array .int) := ⟨RX5, TX5, 30, tyX5, rfl, by decide, inTX5, flX5_54, rfl, tyX5_ok, nmX5, rfl, by decide +kernel, rfl⟩
theorem fqX5_57 : okQ RX5 57 5 17 (.array .int) := ⟨RX5, TX5, 30, tyX5, rfl, by decide, inTX5, flX5_57, rfl, tyX5_ok, nmX5, rfl, by decide +kernel, rfl⟩
theorem fqX5_60 : okQ RX5 60 5 20 (.array .long) := ⟨RX5, TX5, 30, tyX5, rfl, by decide, inTX5, flX5_60, rfl, tyX5_ok, nmX5, rfl, by decide +kernel, rfl⟩
theorem fqX5_63 : okQ RX5 63 5 23 (.array .int) := ⟨RX5, TX5, 30, tyX5, rfl, by decide, inTX5, flX5_63, rfl, tyX5_ok, nmX5, rfl, by decide +kernel, rfl⟩
theorem fqX5_66 : okQ RX5 66 5 25 (.array .int) := ⟨RX5, TX5, 30, tyX5, rfl, by decide, inTX5, flX5_66, rfl, tyX5_ok, nmX5, rfl, by decide +kernel, rfl⟩
set_option maxHeartbeats 4000000 in
set_option maxRecDepth 100000 in
theorem k_X1 {G : eG} {a : Nat} {ws : va_W} : MN G M_X1_init cX1_init 0 0 [.ref a] ws (fun v w => v = none ∧ w = ws) := by
  refine MN.of (by decide +kernel) rfl (Nat.le_of_ble_eq_true rfl) (by dsimp only [linit, Nat.reduceSub, List.reduceReplicate] <;> rfl) ?_
  refine NV.aload_n (pc := 0) dX1_init_0 rfl ?_
  refine NV.objI (pc := 1) dX1_init_1 oiX1 oiI oiC (by decide) (Nat.le_of_ble_eq_true rfl) ?_
  exact NV.vret (pc := 4) dX1_init_4 trivial ⟨rfl, rfl⟩

set_option maxHeartbeats 4000000 in
set_option maxRecDepth 100000 in
theorem k_X3 {G : eG} {a : Nat} {ws : va_W} : MN G M_X3_init cX3_init 0 0 [.ref a] ws (fun v w => v = none ∧ w = ws) := by
  refine MN.of (by decide +kernel) rfl (Nat.le_of_ble_eq_true rfl) (by dsimp only [linit, Nat.reduceSub, List.reduceReplicate] <;> rfl) ?_
  refine NV.aload_n (pc := 0) dX3_init_0 rfl ?_
  refine NV.objI (pc := 1) dX3_init_1 oiX3 oiI oiC (by decide) (Nat.le_of_ble_eq_true rfl) ?_
  exact NV.vret (pc := 4) dX3_init_4 trivial ⟨rfl, rfl⟩

set_option maxHeartbeats 4000000 in
set_option maxRecDepth 100000 in
theorem k_X2 {G : eG} {a k : Nat} {ws : va_W} (hk : ws[k]? = some (a, .inr (2, [.int 0, .int 0, .int 0, .int 0, .null]))) : MN G M_X2_init cX2_init 1 400 [.ref a] ws (fun v w => v = none ∧ (fun (w : va_W) => ∃ q : Nat, w = (ws.set k (a, .inr (2, [.int 1, .int 0, .int 0, .int 0, .null])) ++ ([(q, .inl (G.2.2 0, 400, .inl (fun _ => 0)))] : va_W)).set k (a, .inr (2, [.int 1, .int 0, .int 0, .int 0, .ref q]))) w) := by
  have hlt := (List.getElem?_eq_some_iff.mp hk).1
  refine MN.of (by decide +kernel) rfl (Nat.le_of_ble_eq_true rfl) (by dsimp only [linit, Nat.reduceSub, List.reduceReplicate] <;> rfl) ?_
  refine NV.aload_n (pc := 0) dX2_init_0 rfl ?_
  refine NV.objI (pc := 1) dX2_init_1 oiX2 oiI oiC (by decide) (Nat.le_of_ble_eq_true rfl) ?_
  refine NV.aload_n (pc := 4) dX2_init_4 rfl ?_
  refine NV.iconst (pc := 5) (v := 1) dX2_init_5 (by decide) ?_
  refine NV.putf (pc := 6) (q := k) dX2_init_6 fpX2_9 hk rfl rfl (Nat.le_of_ble_eq_true rfl) ?_
  refine NV.wor (ws' := ws.set k (a, .inr (2, [.int 1, .int 0, .int 0, .int 0, .null]))) rfl ?_
  refine NV.aload_n (pc := 9) dX2_init_9 rfl ?_
  refine NV.sipush (pc := 10) (v := 400) dX2_init_10 (by decide) ?_
  refine NV.newa (pc := 13) (kc := 0) (ks := 0) (t0 := 0) (N := 400) (a0 := (400, .inl (fun _ => 0))) dX2_init_13 wA_i rfl rfl (fun _ => rfl) (by decide +kernel) (by decide +kernel) (by decide +kernel) (fun q => ?_)
  refine NV.putF (pc := 15) (q := k) (fs := [.int 1, .int 0, .int 0, .int 0, .null]) dX2_init_15 fqX2_15 rfl (by rw [List.getElem?_append_left (by rw [List.length_set]; exact hlt), List.getElem?_set_self hlt]) rfl rfl (Nat.le_of_ble_eq_true rfl) ?_
  exact NV.vret (pc := 18) dX2_init_18 trivial ⟨rfl, q, rfl⟩

set_option maxHeartbeats 4000000 in
set_option maxRecDepth 100000 in
theorem k_X0 {G : eG} {a k : Nat} {ws : va_W} (hk : ws[k]? = some (a, .inr (0, [.int 0, .int 0, .int 0, .int 0, .null, .null]))) : MN G M_X0_init cX0_init 2 24 [.ref a] ws (fun v w => v = none ∧ (fun (w : va_W) => ∃ q1 q2 : Nat, w = ((ws ++ ([(q1, .inl (G.2.2 1, 20, .inr (.inl (fun _ => 0))))] : va_W)).set k (a, .inr (0, [.int 0, .int 0, .int 0, .int 0, .ref q1, .null])) ++ ([(q2, .inr (1, [.int 0, .int 0, .int 0, .int 0]))] : va_W)).set k (a, .inr (0, [.int 0, .int 0, .int 0, .int 0, .ref q1, .ref q2]))) w) := by
  have hlt := (List.getElem?_eq_some_iff.mp hk).1
  refine MN.of (by decide +kernel) rfl (Nat.le_of_ble_eq_true rfl) (by dsimp only [linit, Nat.reduceSub, List.reduceReplicate] <;> rfl) ?_
  refine NV.aload_n (pc := 0) dX0_init_0 rfl ?_
  refine NV.objI (pc := 1) dX0_init_1 oiX0 oiI oiC (by decide) (Nat.le_of_ble_eq_true rfl) ?_
  refine NV.aload_n (pc := 4) dX0_init_4 rfl ?_
  refine NV.bipush (pc := 5) (v := 20) dX0_init_5 (by decide) ?_
  refine NV.newa (pc := 7) (kc := 1) (ks := 4) (t0 := 1) (N := 20) (a0 := (20, .inr (.inl (fun _ => 0)))) dX0_init_7 wA_j rfl rfl (fun _ => rfl) (by decide +kernel) (by decide +kernel) (by decide +kernel) (fun q1 => ?_)
  refine NV.putF (pc := 9) (q := k) (fs := [.int 0, .int 0, .int 0, .int 0, .null, .null]) dX0_init_9 fqX0_9 rfl (by rw [List.getElem?_append_left hlt]; exact hk) rfl rfl (Nat.le_of_ble_eq_true rfl) ?_
  refine NV.wor (ws' := (ws ++ ([(q1, .inl (G.2.2 1, 20, .inr (.inl (fun _ => 0))))] : va_W)).set k (a, .inr (0, [.int 0, .int 0, .int 0, .int 0, .ref q1, .null]))) rfl ?_
  have hl2 : k < ((ws ++ ([(q1, .inl (G.2.2 1, 20, .inr (.inl (fun _ => 0))))] : va_W)).set k (a, .inr (0, [.int 0, .int 0, .int 0, .int 0, .ref q1, .null]))).length := by rw [List.length_set, List.length_append]; omega
  refine NV.aload_n (pc := 12) dX0_init_12 rfl ?_
  refine NV.new (pc := 13) (kc := 0) (ks := 0) (N := 4) dX0_init_13 nwX0_15 (fun q2 => ?_)
  refine NV.dup (pc := 16) dX0_init_16 rfl ?_
  refine NV.callN (pc := 17) (kc := 0) (ks := 0) (kc' := 0) (ks' := 0) (M' := M_X1_init) (Pr := fun w => w = _) dX0_init_17 nkX0_17 okC_X1_init imX1 rfl rfl k_X1 (by decide) (Nat.le_of_ble_eq_true rfl) (fun ws9 e9 => ?_)
  subst e9
  refine NV.putF (pc := 20) (q := k) (fs := [.int 0, .int 0, .int 0, .int 0, .ref q1, .null]) dX0_init_20 fqX0_18 rfl (by rw [List.getElem?_append_left hl2, List.getElem?_set_self (by rw [List.length_append]; omega)]) rfl rfl (Nat.le_of_ble_eq_true rfl) ?_
  exact NV.vret (pc := 23) dX0_init_23 trivial ⟨rfl, q1, q2, rfl⟩


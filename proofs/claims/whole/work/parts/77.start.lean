/-- the state at first -/
def iniS : St := (fun _ => true, fun _ => 0, fun _ => 0, fun _ => 0, fun _ _ => 0, fun _ => false, 0, fun _ => 0, fun _ => 0, fun _ => 0, fun _ => 0, fun _ _ => 0, fun _ => false, fun _ => 0, fun _ => 0, fun _ => 0, 0, fun _ => 0, 0, fun _ => 0, 0, 0, fun _ => 0, 0)
def iniC : Zc := (fun _ => 0, 0, 0, 0, 0, 0, false, 0, 0, 0)
def iniM : Zm := (0, fun _ => 0, 0, 0, 0, 0, fun _ => 0, fun _ => 0, fun _ => 0)
theorem ini_inv : Inv iniS := by
  refine ⟨fun p _ => ⟨Nat.zero_le _, Nat.zero_le _, Nat.zero_le _⟩, fun p _ k _ _ => rfl, Nat.zero_le _, fun c _ => ⟨Nat.zero_le _, Nat.zero_le _, Nat.zero_le _, Nat.zero_le _⟩, fun c _ x _ => Nat.zero_le _, fun c _ h => ?_, fun c _ _ => ⟨rfl, rfl, rfl⟩, Nat.zero_le _, fun i h => ?_, Nat.zero_le _, Nat.zero_le _, fun p _ h => ?_, fun p _ k _ => iCast_0 _⟩
  · exact absurd (show false = true from h) (by decide)
  · exact absurd (show i < 0 from h) (by omega)
  · exact absurd (show true = false from h) (by decide)
def hI0 (G : eG) (ad : Nat → Nat) : Nat → va_E := hL [.inr (4, [.ref (ad 1), .ref (ad 2), .ref (ad 3), .int 0, .ref (ad 4), .int 0, .ref (ad 5), .int 0, .int 0, .int 0, .ref (ad 6), .int 0, .ref (ad 7), .ref (ad 8), .ref (ad 9)]), .inl (G.2.2 3, 6, .inr (.inr (.inr (.inr (fun i => some (ad (10 + 2 * i))))))), .inl (G.2.2 2, 400, .inl (fun _ => 0)), .inl (G.2.2 4, 4, .inr (.inr (.inr (.inr (fun i => some (ad (22 + 3 * i))))))), .inl (G.2.2 0, 12, .inl (fun _ => 0)), .inl (G.2.2 1, 60, .inr (.inl (fun _ => 0))), .inl (G.2.2 0, 6, .inl (fun _ => 0)), .inl (G.2.2 0, 20, .inl (fun _ => 0)), .inr (3, [.int 0, .long 0, .long 0, .long 0, .long 0]), .inr (1, [.int 0, .int 0, .int 0, .int 0]), .inr (2, [.int 1, .int 0, .int 0, .int 0, .ref (ad 11)]), .inl (G.2.2 0, 400, .inl (fun _ => 0)), .inr (2, [.int 1, .int 0, .int 0, .int 0, .ref (ad 13)]), .inl (G.2.2 0, 400, .inl (fun _ => 0)), .inr (2, [.int 1, .int 0, .int 0, .int 0, .ref (ad 15)]), .inl (G.2.2 0, 400, .inl (fun _ => 0)), .inr (2, [.int 1, .int 0, .int 0, .int 0, .ref (ad 17)]), .inl (G.2.2 0, 400, .inl (fun _ => 0)), .inr (2, [.int 1, .int 0, .int 0, .int 0, .ref (ad 19)]), .inl (G.2.2 0, 400, .inl (fun _ => 0)), .inr (2, [.int 1, .int 0, .int 0, .int 0, .ref (ad 21)]), .inl (G.2.2 0, 400, .inl (fun _ => 0)), .inr (0, [.int 0, .int 0, .int 0, .int 0, .ref (ad 23), .ref (ad 24)]), .inl (G.2.2 1, 20, .inr (.inl (fun _ => 0))), .inr (1, [.int 0, .int 0, .int 0, .int 0]), .inr (0, [.int 0, .int 0, .int 0, .int 0, .ref (ad 26), .ref (ad 27)]), .inl (G.2.2 1, 20, .inr (.inl (fun _ => 0))), .inr (1, [.int 0, .int 0, .int 0, .int 0]), .inr (0, [.int 0, .int 0, .int 0, .int 0, .ref (ad 29), .ref (ad 30)]), .inl (G.2.2 1, 20, .inr (.inl (fun _ => 0))), .inr (1, [.int 0, .int 0, .int 0, .int 0]), .inr (0, [.int 0, .int 0, .int 0, .int 0, .ref (ad 32), .ref (ad 33)]), .inl (G.2.2 1, 20, .inr (.inl (fun _ => 0))), .inr (1, [.int 0, .int 0, .int 0, .int 0]), .inr (5, [.ref (ad 35), .ref (ad 36), .ref (ad 37), .ref (ad 38), .ref (ad 39), .ref (ad 40), .int 0, .ref (ad 41), .ref (ad 42), .ref (ad 43), .ref (ad 44), .ref (ad 45), .ref (ad 46), .ref (ad 47), .ref (ad 48), .ref (ad 49), .int 0, .ref (ad 50), .int 0, .int 0, .ref (ad 51), .int 0, .int 0, .ref (ad 52), .int 0, .ref (ad 53), .int 0, .long 0, .long 0, .long 0]), .inl (G.2.2 2, 6, .inl (fun _ => 0)), .inl (G.2.2 0, 6, .inl (fun _ => 0)), .inl (G.2.2 0, 6, .inl (fun _ => 0)), .inl (G.2.2 0, 6, .inl (fun _ => 0)), .inl (G.2.2 0, 2400, .inl (fun _ => 0)), .inl (G.2.2 2, 400, .inl (fun _ => 0)), .inl (G.2.2 0, 4, .inl (fun _ => 0)), .inl (G.2.2 0, 4, .inl (fun _ => 0)), .inl (G.2.2 0, 4, .inl (fun _ => 0)), .inl (G.2.2 0, 4, .inl (fun _ => 0)), .inl (G.2.2 1, 80, .inr (.inl (fun _ => 0))), .inl (G.2.2 2, 4, .inl (fun _ => 0)), .inl (G.2.2 0, 4, .inl (fun _ => 0)), .inl (G.2.2 0, 4, .inl (fun _ => 0)), .inl (G.2.2 0, 4, .inl (fun _ => 0)), .inl (G.2.2 0, 12, .inl (fun _ => 0)), .inl (G.2.2 1, 60, .inr (.inl (fun _ => 0))), .inl (G.2.2 0, 6, .inl (fun _ => 0)), .inl (G.2.2 0, 20, .inl (fun _ => 0))]

set_option maxHeartbeats 4000000 in
set_option maxRecDepth 100000 in
theorem ini_C {G : eG} {ad : Nat → Nat} : CW G ad iniS iniC (hI0 G ad) (hI0 G ad) := by
  refine ⟨rfl, rfl, rfl, rfl, rfl, rfl, rfl, rfl, rfl, rfl, fun p hp => ?_, fun p hp => ?_, fun c hc => ?_, fun c hc => ?_, fun c hc => ?_, fun _ _ => rfl⟩
  · match p, hp with
    | 0, _ => rfl
    | 1, _ => rfl
    | 2, _ => rfl
    | 3, _ => rfl
    | 4, _ => rfl
    | 5, _ => rfl
    | p + 6, h => exact absurd h (by omega)
  · match p, hp with
    | 0, _ => rfl
    | 1, _ => rfl
    | 2, _ => rfl
    | 3, _ => rfl
    | 4, _ => rfl
    | 5, _ => rfl
    | p + 6, h => exact absurd h (by omega)
  · match c, hc with
    | 0, _ => rfl
    | 1, _ => rfl
    | 2, _ => rfl
    | 3, _ => rfl
    | c + 4, h => exact absurd h (by omega)
  · match c, hc with
    | 0, _ => rfl
    | 1, _ => rfl
    | 2, _ => rfl
    | 3, _ => rfl
    | c + 4, h => exact absurd h (by omega)
  · match c, hc with
    | 0, _ => rfl
    | 1, _ => rfl
    | 2, _ => rfl
    | 3, _ => rfl
    | c + 4, h => exact absurd h (by omega)

set_option maxHeartbeats 4000000 in
set_option maxRecDepth 100000 in
theorem ini_M {G : eG} {ad : Nat → Nat} : MW G ad iniS iniM (hI0 G ad) (hI0 G ad) :=
  ⟨rfl, rfl, rfl, rfl, rfl, rfl, rfl, rfl, rfl, rfl, rfl, rfl, rfl, rfl, rfl, rfl, rfl, rfl, rfl, rfl, fun c _ h => absurd (show false = true from h) (by decide), fun _ _ => rfl⟩

theorem ini_B {G : eG} {ad : Nat → Nat} : BW G ad iniS (hI0 G ad) := ⟨ini_inv, ⟨iniC, ini_C⟩, ⟨iniM, ini_M⟩⟩

set_option maxHeartbeats 4000000 in
set_option maxRecDepth 100000 in
theorem k_L {G : eG} (b L : Nat) (xs : Nat → Int32) (hL : L ≤ 3072) : NV G M_L_law cL_law (some (b, L, xs)) (fun v _ => v = some (.int 1)) 54 6146 [] 0 [some (.ref b), none, none, none] [] := by
  refine NV.new (pc := 0) (kc := 53) (ks := 6131) (N := 15) dL_law_0 nwL_7 (fun a0 => ?_)
  refine NV.wor (ws' := [(a0, .inr (4, [.null, .null, .null, .int 0, .null, .int 0, .null, .int 0, .int 0, .int 0, .null, .int 0, .null, .null, .null]))]) rfl ?_
  refine NV.dup (pc := 3) dL_law_3 rfl ?_
  refine NV.callI (pc := 4) (kc := 20) (ks := 3064) (kc' := 33) (ks' := 3067) (M' := M_X4_init) dL_law_4 lkL_9 okC_X4_init imX4 rfl rfl k_X4 (by decide) (Nat.le_of_ble_eq_true rfl) (fun ws9 e9 => ?_)
  obtain ⟨ad1, rfl, rfl⟩ := e9
  refine NV.astore_n (pc := 7) 1 dL_law_7 rfl (by decide) (by dsimp only [lst1, lk] <;> rfl) ?_
  refine NV.new (pc := 8) (kc := 19) (ks := 3034) (N := 30) dL_law_8 nwL_10 (fun m0 => ?_)
  refine NV.wor (ws' := [(ad1 0, .inr (4, [.ref (ad1 1), .ref (ad1 2), .ref (ad1 3), .int 0, .ref (ad1 4), .int 0, .ref (ad1 5), .int 0, .int 0, .int 0, .ref (ad1 6), .int 0, .ref (ad1 7), .ref (ad1 8), .ref (ad1 9)])), (ad1 1, .inl (G.2.2 3, 6, .inr (.inr (.inr (.inr (fun i => some (ad1 (10 + 2 * i)))))))), (ad1 2, .inl (G.2.2 2, 400, .inl (fun _ => 0))), (ad1 3, .inl (G.2.2 4, 4, .inr (.inr (.inr (.inr (fun i => some (ad1 (22 + 3 * i)))))))), (ad1 4, .inl (G.2.2 0, 12, .inl (fun _ => 0))), (ad1 5, .inl (G.2.2 1, 60, .inr (.inl (fun _ => 0)))), (ad1 6, .inl (G.2.2 0, 6, .inl (fun _ => 0))), (ad1 7, .inl (G.2.2 0, 20, .inl (fun _ => 0))), (ad1 8, .inr (3, [.int 0, .long 0, .long 0, .long 0, .long 0])), (ad1 9, .inr (1, [.int 0, .int 0, .int 0, .int 0])), (ad1 10, .inr (2, [.int 1, .int 0, .int 0, .int 0, .ref (ad1 11)])), (ad1 11, .inl (G.2.2 0, 400, .inl (fun _ => 0))), (ad1 12, .inr (2, [.int 1, .int 0, .int 0, .int 0, .ref (ad1 13)])), (ad1 13, .inl (G.2.2 0, 400, .inl (fun _ => 0))), (ad1 14, .inr (2, [.int 1, .int 0, .int 0, .int 0, .ref (ad1 15)])), (ad1 15, .inl (G.2.2 0, 400, .inl (fun _ => 0))), (ad1 16, .inr (2, [.int 1, .int 0, .int 0, .int 0, .ref (ad1 17)])), (ad1 17, .inl (G.2.2 0, 400, .inl (fun _ => 0))), (ad1 18, .inr (2, [.int 1, .int 0, .int 0, .int 0, .ref (ad1 19)])), (ad1 19, .inl (G.2.2 0, 400, .inl (fun _ => 0))), (ad1 20, .inr (2, [.int 1, .int 0, .int 0, .int 0, .ref (ad1 21)])), (ad1 21, .inl (G.2.2 0, 400, .inl (fun _ => 0))), (ad1 22, .inr (0, [.int 0, .int 0, .int 0, .int 0, .ref (ad1 23), .ref (ad1 24)])), (ad1 23, .inl (G.2.2 1, 20, .inr (.inl (fun _ => 0)))), (ad1 24, .inr (1, [.int 0, .int 0, .int 0, .int 0])), (ad1 25, .inr (0, [.int 0, .int 0, .int 0, .int 0, .ref (ad1 26), .ref (ad1 27)])), (ad1 26, .inl (G.2.2 1, 20, .inr (.inl (fun _ => 0)))), (ad1 27, .inr (1, [.int 0, .int 0, .int 0, .int 0])), (ad1 28, .inr (0, [.int 0, .int 0, .int 0, .int 0, .ref (ad1 29), .ref (ad1 30)])), (ad1 29, .inl (G.2.2 1, 20, .inr (.inl (fun _ => 0)))), (ad1 30, .inr (1, [.int 0, .int 0, .int 0, .int 0])), (ad1 31, .inr (0, [.int 0, .int 0, .int 0, .int 0, .ref (ad1 32), .ref (ad1 33)])), (ad1 32, .inl (G.2.2 1, 20, .inr (.inl (fun _ => 0)))), (ad1 33, .inr (1, [.int 0, .int 0, .int 0, .int 0])), (m0, .inr (5, [.null, .null, .null, .null, .null, .null, .int 0, .null, .null, .null, .null, .null, .null, .null, .null, .null, .int 0, .null, .int 0, .int 0, .null, .int 0, .int 0, .null, .int 0, .null, .int 0, .long 0, .long 0, .long 0]))]) rfl ?_
  refine NV.dup (pc := 11) dL_law_11 rfl ?_
  refine NV.callI (pc := 12) (kc := 0) (ks := 0) (kc' := 19) (ks' := 3034) (M' := M_X5_init) dL_law_12 lkL_12 okC_X5_init imX5 rfl rfl k_X5 (by decide) (Nat.le_of_ble_eq_true rfl) (fun ws9 e9 => ?_)
  obtain ⟨ad2, E, rfl, rfl⟩ := e9
  refine NV.astore_n (pc := 15) 2 dL_law_15 rfl (by decide) (by dsimp only [lst1, lk] <;> rfl) ?_
  refine NV.iconst (pc := 16) (v := nI 0) dL_law_16 rfl ?_
  refine NV.istore_n (pc := 17) 3 dL_law_17 rfl (by decide) (by dsimp only [lst1, lk] <;> rfl) ?_
  have g0 : ad1 0 = ad2 0 := (E 0 (by omega)).symm
  have g1 : ad1 1 = ad2 1 := (E 1 (by omega)).symm
  have g2 : ad1 2 = ad2 2 := (E 2 (by omega)).symm
  have g3 : ad1 3 = ad2 3 := (E 3 (by omega)).symm
  have g4 : ad1 4 = ad2 4 := (E 4 (by omega)).symm
  have g5 : ad1 5 = ad2 5 := (E 5 (by omega)).symm
  have g6 : ad1 6 = ad2 6 := (E 6 (by omega)).symm
  have g7 : ad1 7 = ad2 7 := (E 7 (by omega)).symm
  have g8 : ad1 8 = ad2 8 := (E 8 (by omega)).symm
  have g9 : ad1 9 = ad2 9 := (E 9 (by omega)).symm
  have g10 : ad1 10 = ad2 10 := (E 10 (by omega)).symm
  have g11 : ad1 11 = ad2 11 := (E 11 (by omega)).symm
  have g12 : ad1 12 = ad2 12 := (E 12 (by omega)).symm
  have g13 : ad1 13 = ad2 13 := (E 13 (by omega)).symm
  have g14 : ad1 14 = ad2 14 := (E 14 (by omega)).symm
  have g15 : ad1 15 = ad2 15 := (E 15 (by omega)).symm
  have g16 : ad1 16 = ad2 16 := (E 16 (by omega)).symm
  have g17 : ad1 17 = ad2 17 := (E 17 (by omega)).symm
  have g18 : ad1 18 = ad2 18 := (E 18 (by omega)).symm
  have g19 : ad1 19 = ad2 19 := (E 19 (by omega)).symm
  have g20 : ad1 20 = ad2 20 := (E 20 (by omega)).symm
  have g21 : ad1 21 = ad2 21 := (E 21 (by omega)).symm
  have g22 : ad1 22 = ad2 22 := (E 22 (by omega)).symm
  have g23 : ad1 23 = ad2 23 := (E 23 (by omega)).symm
  have g24 : ad1 24 = ad2 24 := (E 24 (by omega)).symm
  have g25 : ad1 25 = ad2 25 := (E 25 (by omega)).symm
  have g26 : ad1 26 = ad2 26 := (E 26 (by omega)).symm
  have g27 : ad1 27 = ad2 27 := (E 27 (by omega)).symm
  have g28 : ad1 28 = ad2 28 := (E 28 (by omega)).symm
  have g29 : ad1 29 = ad2 29 := (E 29 (by omega)).symm
  have g30 : ad1 30 = ad2 30 := (E 30 (by omega)).symm
  have g31 : ad1 31 = ad2 31 := (E 31 (by omega)).symm
  have g32 : ad1 32 = ad2 32 := (E 32 (by omega)).symm
  have g33 : ad1 33 = ad2 33 := (E 33 (by omega)).symm
  refine NV.wor (ws' := [(ad2 0, .inr (4, [.ref (ad2 1), .ref (ad2 2), .ref (ad2 3), .int 0, .ref (ad2 4), .int 0, .ref (ad2 5), .int 0, .int 0, .int 0, .ref (ad2 6), .int 0, .ref (ad2 7), .ref (ad2 8), .ref (ad2 9)])), (ad2 1, .inl (G.2.2 3, 6, .inr (.inr (.inr (.inr (fun i => some (ad1 (10 + 2 * i)))))))), (ad2 2, .inl (G.2.2 2, 400, .inl (fun _ => 0))), (ad2 3, .inl (G.2.2 4, 4, .inr (.inr (.inr (.inr (fun i => some (ad1 (22 + 3 * i)))))))), (ad2 4, .inl (G.2.2 0, 12, .inl (fun _ => 0))), (ad2 5, .inl (G.2.2 1, 60, .inr (.inl (fun _ => 0)))), (ad2 6, .inl (G.2.2 0, 6, .inl (fun _ => 0))), (ad2 7, .inl (G.2.2 0, 20, .inl (fun _ => 0))), (ad2 8, .inr (3, [.int 0, .long 0, .long 0, .long 0, .long 0])), (ad2 9, .inr (1, [.int 0, .int 0, .int 0, .int 0])), (ad2 10, .inr (2, [.int 1, .int 0, .int 0, .int 0, .ref (ad2 11)])), (ad2 11, .inl (G.2.2 0, 400, .inl (fun _ => 0))), (ad2 12, .inr (2, [.int 1, .int 0, .int 0, .int 0, .ref (ad2 13)])), (ad2 13, .inl (G.2.2 0, 400, .inl (fun _ => 0))), (ad2 14, .inr (2, [.int 1, .int 0, .int 0, .int 0, .ref (ad2 15)])), (ad2 15, .inl (G.2.2 0, 400, .inl (fun _ => 0))), (ad2 16, .inr (2, [.int 1, .int 0, .int 0, .int 0, .ref (ad2 17)])), (ad2 17, .inl (G.2.2 0, 400, .inl (fun _ => 0))), (ad2 18, .inr (2, [.int 1, .int 0, .int 0, .int 0, .ref (ad2 19)])), (ad2 19, .inl (G.2.2 0, 400, .inl (fun _ => 0))), (ad2 20, .inr (2, [.int 1, .int 0, .int 0, .int 0, .ref (ad2 21)])), (ad2 21, .inl (G.2.2 0, 400, .inl (fun _ => 0))), (ad2 22, .inr (0, [.int 0, .int 0, .int 0, .int 0, .ref (ad2 23), .ref (ad2 24)])), (ad2 23, .inl (G.2.2 1, 20, .inr (.inl (fun _ => 0)))), (ad2 24, .inr (1, [.int 0, .int 0, .int 0, .int 0])), (ad2 25, .inr (0, [.int 0, .int 0, .int 0, .int 0, .ref (ad2 26), .ref (ad2 27)])), (ad2 26, .inl (G.2.2 1, 20, .inr (.inl (fun _ => 0)))), (ad2 27, .inr (1, [.int 0, .int 0, .int 0, .int 0])), (ad2 28, .inr (0, [.int 0, .int 0, .int 0, .int 0, .ref (ad2 29), .ref (ad2 30)])), (ad2 29, .inl (G.2.2 1, 20, .inr (.inl (fun _ => 0)))), (ad2 30, .inr (1, [.int 0, .int 0, .int 0, .int 0])), (ad2 31, .inr (0, [.int 0, .int 0, .int 0, .int 0, .ref (ad2 32), .ref (ad2 33)])), (ad2 32, .inl (G.2.2 1, 20, .inr (.inl (fun _ => 0)))), (ad2 33, .inr (1, [.int 0, .int 0, .int 0, .int 0])), (ad2 34, .inr (5, [.ref (ad2 35), .ref (ad2 36), .ref (ad2 37), .ref (ad2 38), .ref (ad2 39), .ref (ad2 40), .int 0, .ref (ad2 41), .ref (ad2 42), .ref (ad2 43), .ref (ad2 44), .ref (ad2 45), .ref (ad2 46), .ref (ad2 47), .ref (ad2 48), .ref (ad2 49), .int 0, .ref (ad2 50), .int 0, .int 0, .ref (ad2 51), .int 0, .int 0, .ref (ad2 52), .int 0, .ref (ad2 53), .int 0, .long 0, .long 0, .long 0])), (ad2 35, .inl (G.2.2 2, 6, .inl (fun _ => 0))), (ad2 36, .inl (G.2.2 0, 6, .inl (fun _ => 0))), (ad2 37, .inl (G.2.2 0, 6, .inl (fun _ => 0))), (ad2 38, .inl (G.2.2 0, 6, .inl (fun _ => 0))), (ad2 39, .inl (G.2.2 0, 2400, .inl (fun _ => 0))), (ad2 40, .inl (G.2.2 2, 400, .inl (fun _ => 0))), (ad2 41, .inl (G.2.2 0, 4, .inl (fun _ => 0))), (ad2 42, .inl (G.2.2 0, 4, .inl (fun _ => 0))), (ad2 43, .inl (G.2.2 0, 4, .inl (fun _ => 0))), (ad2 44, .inl (G.2.2 0, 4, .inl (fun _ => 0))), (ad2 45, .inl (G.2.2 1, 80, .inr (.inl (fun _ => 0)))), (ad2 46, .inl (G.2.2 2, 4, .inl (fun _ => 0))), (ad2 47, .inl (G.2.2 0, 4, .inl (fun _ => 0))), (ad2 48, .inl (G.2.2 0, 4, .inl (fun _ => 0))), (ad2 49, .inl (G.2.2 0, 4, .inl (fun _ => 0))), (ad2 50, .inl (G.2.2 0, 12, .inl (fun _ => 0))), (ad2 51, .inl (G.2.2 1, 60, .inr (.inl (fun _ => 0)))), (ad2 52, .inl (G.2.2 0, 6, .inl (fun _ => 0))), (ad2 53, .inl (G.2.2 0, 20, .inl (fun _ => 0)))]) (by simp only [g0, g1, g2, g3, g4, g5, g6, g7, g8, g9, g10, g11, g12, g13, g14, g15, g16, g17, g18, g19, g20, g21, g22, g23, g24, g25, g26, g27, g28, g29, g30, g31, g32, g33]; rfl) ?_
  rw [g0]
  refine NV.swap (k := 1) (x' := (6, .inr (.inr (.inr (.inr (fun i => some (ad2 (10 + 2 * i)))))))) rfl (cell_c (fun j hj => match j, hj with | 0, _ => congrArg some g10.symm | 1, _ => congrArg some g12.symm | 2, _ => congrArg some g14.symm | 3, _ => congrArg some g16.symm | 4, _ => congrArg some g18.symm | 5, _ => congrArg some g20.symm | j + 6, h => absurd h (by omega))) ?_
  refine NV.swap (k := 3) (x' := (4, .inr (.inr (.inr (.inr (fun i => some (ad2 (22 + 3 * i)))))))) rfl (cell_c (fun j hj => match j, hj with | 0, _ => congrArg some g22.symm | 1, _ => congrArg some g25.symm | 2, _ => congrArg some g28.symm | 3, _ => congrArg some g31.symm | j + 4, h => absurd h (by omega))) ?_
  refine NV.ofEV (ad := ad2) (n := 54) (h := hI0 G ad2) (post' := (fun v _ => v = some (.int 1))) rfl (fun _ _ q => q) ?_
  exact l_law b L xs hL L 0 iniS (hI0 G ad2) (by omega) (by omega) ini_B


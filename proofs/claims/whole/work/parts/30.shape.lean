/-! ===== the shape behind both constructors: NewsShips at 0, NewsShipsModel at 378 ===== -/
def am_lgs : List Nat := [16, 28, 42, 54, 66, 78, 90, 102, 114, 126, 138, 150, 162, 174, 186, 198, 210, 222, 234, 246, 258, 270, 282, 294, 306, 318, 331, 343, 364]
def am_kdL : List Nat := [14, 11, 1, 1, 4, 1, 1, 1, 1, 1, 1, 1, 1, 12, 1, 9, 8, 1, 1, 1, 1, 1, 1, 1, 1, 1, 1, 1, 8, 1, 1, 1, 1, 1, 1, 1, 1, 1, 1, 1, 5, 3, 8, 1, 1, 1, 1, 1, 1, 1, 1, 1, 1, 1, 8, 1, 1, 1, 1, 1, 1, 1, 1, 1, 1, 1, 8, 1, 1, 1, 1, 1, 1, 1, 1, 1, 1, 1, 8, 1, 1, 1, 1, 1, 1, 1, 1, 1, 1, 1, 8, 1, 1, 1, 1, 1, 1, 1, 1, 1, 1, 1, 8, 1, 1, 1, 1, 1, 1, 1, 1, 1, 1, 1, 8, 1, 1, 1, 1, 1, 1, 1, 1, 1, 1, 1, 8, 1, 1, 1, 1, 1, 1, 1, 1, 1, 1, 1, 8, 1, 1, 1, 1, 1, 1, 1, 1, 1, 1, 1, 8, 1, 1, 1, 1, 1, 1, 1, 1, 1, 1, 1, 8, 1, 1, 1, 1, 1, 1, 1, 1, 1, 1, 1, 8, 1, 1, 1, 1, 1, 1, 1, 1, 1, 1, 1, 8, 1, 1, 1, 1, 1, 1, 1, 1, 1, 1, 1, 8, 1, 1, 1, 1, 1, 1, 1, 1, 1, 1, 1, 8, 1, 1, 1, 1, 1, 1, 1, 1, 1, 1, 1, 8, 1, 1, 1, 1, 1, 1, 1, 1, 1, 1, 1, 8, 1, 1, 1, 1, 1, 1, 1, 1, 1, 1, 1, 8, 1, 1, 1, 1, 1, 1, 1, 1, 1, 1, 1, 8, 1, 1, 1, 1, 1, 1, 1, 1, 1, 1, 1, 8, 1, 1, 1, 1, 1, 1, 1, 1, 1, 1, 1, 8, 1, 1, 1, 1, 1, 1, 1, 1, 1, 1, 1, 8, 1, 1, 1, 1, 1, 1, 1, 1, 1, 1, 1, 8, 1, 1, 1, 1, 1, 1, 1, 1, 1, 1, 1, 8, 1, 1, 1, 1, 1, 1, 1, 1, 1, 1, 1, 3, 8, 1, 1, 1, 1, 1, 1, 1, 1, 1, 1, 1, 8, 1, 1, 1, 1, 1, 1, 1, 1, 1, 1, 1, 7, 1, 1, 1, 1, 1, 10, 1, 13, 8, 1, 1, 1, 1, 1, 1, 1, 1, 1, 1, 1, 6, 1, 15, 1, 1, 1, 1, 1, 1, 1, 2, 1, 1, 1, 1, 1, 1, 2, 1]
def am_lnL : List Nat := [12, 3, 8, 8, 8, 40, 40, 40, 40, 40, 40, 40, 40, 6, 120, 3, 16, 8, 8, 8, 4, 4, 4, 4, 4, 4, 4, 24, 16, 8, 8, 8, 4, 4, 4, 4, 4, 4, 4, 24, 3, 24, 16, 8, 8, 8, 4, 4, 4, 4, 4, 4, 4, 24, 16, 8, 8, 8, 4, 4, 4, 4, 4, 4, 4, 24, 16, 8, 8, 8, 4, 4, 4, 4, 4, 4, 4, 24, 16, 8, 8, 8, 4, 4, 4, 4, 4, 4, 4, 24, 16, 8, 8, 8, 4, 4, 4, 4, 4, 4, 4, 24, 16, 8, 8, 8, 4, 4, 4, 4, 4, 4, 4, 24, 16, 8, 8, 8, 4, 4, 4, 4, 4, 4, 4, 24, 16, 8, 8, 8, 4, 4, 4, 4, 4, 4, 4, 24, 16, 8, 8, 8, 4, 4, 4, 4, 4, 4, 4, 24, 16, 8, 8, 8, 4, 4, 4, 4, 4, 4, 4, 24, 16, 8, 8, 8, 4, 4, 4, 4, 4, 4, 4, 24, 16, 8, 8, 8, 4, 4, 4, 4, 4, 4, 4, 24, 16, 8, 8, 8, 4, 4, 4, 4, 4, 4, 4, 24, 16, 8, 8, 8, 4, 4, 4, 4, 4, 4, 4, 24, 16, 8, 8, 8, 4, 4, 4, 4, 4, 4, 4, 24, 16, 8, 8, 8, 4, 4, 4, 4, 4, 4, 4, 24, 16, 8, 8, 8, 4, 4, 4, 4, 4, 4, 4, 24, 16, 8, 8, 8, 4, 4, 4, 4, 4, 4, 4, 24, 16, 8, 8, 8, 4, 4, 4, 4, 4, 4, 4, 24, 16, 8, 8, 8, 4, 4, 4, 4, 4, 4, 4, 24, 16, 8, 8, 8, 4, 4, 4, 4, 4, 4, 4, 24, 16, 8, 8, 8, 4, 4, 4, 4, 4, 4, 4, 24, 16, 8, 8, 8, 4, 4, 4, 4, 4, 4, 4, 24, 16, 8, 8, 8, 4, 4, 4, 4, 4, 4, 4, 24, 2, 16, 8, 8, 8, 4, 4, 4, 4, 4, 4, 4, 24, 16, 8, 8, 8, 4, 4, 4, 4, 4, 4, 4, 24, 6, 6, 6, 6, 6, 6, 7, 384, 2, 16, 8, 8, 8, 4, 4, 4, 4, 4, 4, 4, 24, 3, 16, 27, 8, 8, 320, 120, 85, 2040, 170, 2, 16, 85, 85, 6, 6, 6, 23808, 36]
def am_rfT : List (Nat × Nat) := [(0, 1), (1, 13), (2, 15), (3, 28), (4, 40), (5, 330), (6, 355), (7, 361), (8, 363), (9, 376), (100, 2), (101, 3), (102, 4), (1300, 14), (1500, 16), (1502, 13), (4000, 41), (35500, 356), (35501, 357), (35502, 358), (35503, 359), (35504, 360), (35505, 28), (36102, 362), (36105, 28), (36106, 355), (36300, 28), (36301, 364), (37600, 377), (37602, 28), (37800, 379), (37801, 380), (37802, 381), (37804, 382), (37808, 383), (37810, 384), (37811, 385), (37812, 386), (37814, 387), (37820, 388), (37821, 389), (37822, 390), (37823, 391), (37824, 392), (37825, 393), (37826, 394)]
def am_rf0 (a k : Nat) : Option Nat := if a ∈ am_lgs then (if 5 ≤ k ∧ k < 16 then some (a + (k - 4)) else none) else if a = 41 then (if k < 24 then some (42 + 12 * k) else none) else if a = 330 then (if k < 2 then some (331 + 12 * k) else none) else if a = 4 then (if k < 8 then some (5 + k) else none) else if k < 100 then am_rfT.lookup (a * 100 + k) else none
def am_S0 : am_S := (fun a => am_kdL.getD a 0, fun a => am_lnL.getD a 0, am_rf0, 395, 30461)
theorem sk_0 : am_kd am_S0 0 = 14 := by decide +kernel
theorem sk_1 : am_kd am_S0 1 = 11 := by decide +kernel
theorem sk_2 : am_kd am_S0 2 = 1 := by decide +kernel
theorem sl_2 : am_ln am_S0 2 = 8 := by decide +kernel
theorem sk_3 : am_kd am_S0 3 = 1 := by decide +kernel
theorem sl_3 : am_ln am_S0 3 = 8 := by decide +kernel
theorem sk_4 : am_kd am_S0 4 = 4 := by decide +kernel
theorem sl_4 : am_ln am_S0 4 = 8 := by decide +kernel
theorem sk_5 : am_kd am_S0 5 = 1 := by decide +kernel
theorem sl_5 : am_ln am_S0 5 = 40 := by decide +kernel
theorem sk_6 : am_kd am_S0 6 = 1 := by decide +kernel
theorem sl_6 : am_ln am_S0 6 = 40 := by decide +kernel
theorem sk_7 : am_kd am_S0 7 = 1 := by decide +kernel
theorem sl_7 : am_ln am_S0 7 = 40 := by decide +kernel
theorem sk_8 : am_kd am_S0 8 = 1 := by decide +kernel
theorem sl_8 : am_ln am_S0 8 = 40 := by decide +kernel
theorem sk_9 : am_kd am_S0 9 = 1 := by decide +kernel
theorem sl_9 : am_ln am_S0 9 = 40 := by decide +kernel
theorem sk_10 : am_kd am_S0 10 = 1 := by decide +kernel
theorem sl_10 : am_ln am_S0 10 = 40 := by decide +kernel
theorem sk_11 : am_kd am_S0 11 = 1 := by decide +kernel
theorem sl_11 : am_ln am_S0 11 = 40 := by decide +kernel
theorem sk_12 : am_kd am_S0 12 = 1 := by decide +kernel
theorem sl_12 : am_ln am_S0 12 = 40 := by decide +kernel
theorem sk_13 : am_kd am_S0 13 = 12 := by decide +kernel
theorem sk_14 : am_kd am_S0 14 = 1 := by decide +kernel
theorem sl_14 : am_ln am_S0 14 = 120 := by decide +kernel
theorem sk_15 : am_kd am_S0 15 = 9 := by decide +kernel
theorem sk_40 : am_kd am_S0 40 = 5 := by decide +kernel
theorem sk_41 : am_kd am_S0 41 = 3 := by decide +kernel
theorem sl_41 : am_ln am_S0 41 = 24 := by decide +kernel
theorem sk_330 : am_kd am_S0 330 = 3 := by decide +kernel
theorem sl_330 : am_ln am_S0 330 = 2 := by decide +kernel
theorem sk_355 : am_kd am_S0 355 = 7 := by decide +kernel
theorem sk_356 : am_kd am_S0 356 = 1 := by decide +kernel
theorem sl_356 : am_ln am_S0 356 = 6 := by decide +kernel
theorem sk_357 : am_kd am_S0 357 = 1 := by decide +kernel
theorem sl_357 : am_ln am_S0 357 = 6 := by decide +kernel
theorem sk_358 : am_kd am_S0 358 = 1 := by decide +kernel
theorem sl_358 : am_ln am_S0 358 = 6 := by decide +kernel
theorem sk_359 : am_kd am_S0 359 = 1 := by decide +kernel
theorem sl_359 : am_ln am_S0 359 = 6 := by decide +kernel
theorem sk_360 : am_kd am_S0 360 = 1 := by decide +kernel
theorem sl_360 : am_ln am_S0 360 = 6 := by decide +kernel
theorem sk_361 : am_kd am_S0 361 = 10 := by decide +kernel
theorem sk_362 : am_kd am_S0 362 = 1 := by decide +kernel
theorem sl_362 : am_ln am_S0 362 = 384 := by decide +kernel
theorem sk_363 : am_kd am_S0 363 = 13 := by decide +kernel
theorem sk_376 : am_kd am_S0 376 = 6 := by decide +kernel
theorem sk_377 : am_kd am_S0 377 = 1 := by decide +kernel
theorem sl_377 : am_ln am_S0 377 = 16 := by decide +kernel
theorem sk_378 : am_kd am_S0 378 = 15 := by decide +kernel
theorem sk_379 : am_kd am_S0 379 = 1 := by decide +kernel
theorem sl_379 : am_ln am_S0 379 = 8 := by decide +kernel
theorem sk_380 : am_kd am_S0 380 = 1 := by decide +kernel
theorem sl_380 : am_ln am_S0 380 = 8 := by decide +kernel
theorem sk_381 : am_kd am_S0 381 = 1 := by decide +kernel
theorem sl_381 : am_ln am_S0 381 = 320 := by decide +kernel
theorem sk_382 : am_kd am_S0 382 = 1 := by decide +kernel
theorem sl_382 : am_ln am_S0 382 = 120 := by decide +kernel
theorem sk_383 : am_kd am_S0 383 = 1 := by decide +kernel
theorem sl_383 : am_ln am_S0 383 = 85 := by decide +kernel
theorem sk_384 : am_kd am_S0 384 = 1 := by decide +kernel
theorem sl_384 : am_ln am_S0 384 = 2040 := by decide +kernel
theorem sk_385 : am_kd am_S0 385 = 1 := by decide +kernel
theorem sl_385 : am_ln am_S0 385 = 170 := by decide +kernel
theorem sk_386 : am_kd am_S0 386 = 2 := by decide +kernel
theorem sl_386 : am_ln am_S0 386 = 2 := by decide +kernel
theorem sk_387 : am_kd am_S0 387 = 1 := by decide +kernel
theorem sl_387 : am_ln am_S0 387 = 16 := by decide +kernel
theorem sk_388 : am_kd am_S0 388 = 1 := by decide +kernel
theorem sl_388 : am_ln am_S0 388 = 85 := by decide +kernel
theorem sk_389 : am_kd am_S0 389 = 1 := by decide +kernel
theorem sl_389 : am_ln am_S0 389 = 85 := by decide +kernel
theorem sk_390 : am_kd am_S0 390 = 1 := by decide +kernel
theorem sl_390 : am_ln am_S0 390 = 6 := by decide +kernel
theorem sk_391 : am_kd am_S0 391 = 1 := by decide +kernel
theorem sl_391 : am_ln am_S0 391 = 6 := by decide +kernel
theorem sk_392 : am_kd am_S0 392 = 1 := by decide +kernel
theorem sl_392 : am_ln am_S0 392 = 6 := by decide +kernel
theorem sk_393 : am_kd am_S0 393 = 2 := by decide +kernel
theorem sl_393 : am_ln am_S0 393 = 23808 := by decide +kernel
theorem sk_394 : am_kd am_S0 394 = 1 := by decide +kernel
theorem sl_394 : am_ln am_S0 394 = 36 := by decide +kernel
theorem sr_0_0 : am_rf am_S0 0 0 = some 1 := by decide +kernel
theorem sr_0_1 : am_rf am_S0 0 1 = some 13 := by decide +kernel
theorem sr_0_2 : am_rf am_S0 0 2 = some 15 := by decide +kernel
theorem sr_0_3 : am_rf am_S0 0 3 = some 28 := by decide +kernel
theorem sr_0_4 : am_rf am_S0 0 4 = some 40 := by decide +kernel
theorem sr_0_5 : am_rf am_S0 0 5 = some 330 := by decide +kernel
theorem sr_0_6 : am_rf am_S0 0 6 = some 355 := by decide +kernel
theorem sr_0_7 : am_rf am_S0 0 7 = some 361 := by decide +kernel
theorem sr_0_8 : am_rf am_S0 0 8 = some 363 := by decide +kernel
theorem sr_0_9 : am_rf am_S0 0 9 = some 376 := by decide +kernel
theorem sr_1_0 : am_rf am_S0 1 0 = some 2 := by decide +kernel
theorem sr_1_1 : am_rf am_S0 1 1 = some 3 := by decide +kernel
theorem sr_1_2 : am_rf am_S0 1 2 = some 4 := by decide +kernel
theorem sr_13_0 : am_rf am_S0 13 0 = some 14 := by decide +kernel
theorem sr_15_0 : am_rf am_S0 15 0 = some 16 := by decide +kernel
theorem sr_15_2 : am_rf am_S0 15 2 = some 13 := by decide +kernel
theorem sr_40_0 : am_rf am_S0 40 0 = some 41 := by decide +kernel
theorem sr_355_0 : am_rf am_S0 355 0 = some 356 := by decide +kernel
theorem sr_355_1 : am_rf am_S0 355 1 = some 357 := by decide +kernel
theorem sr_355_2 : am_rf am_S0 355 2 = some 358 := by decide +kernel
theorem sr_355_3 : am_rf am_S0 355 3 = some 359 := by decide +kernel
theorem sr_355_4 : am_rf am_S0 355 4 = some 360 := by decide +kernel
theorem sr_355_5 : am_rf am_S0 355 5 = some 28 := by decide +kernel
theorem sr_361_2 : am_rf am_S0 361 2 = some 362 := by decide +kernel
theorem sr_361_5 : am_rf am_S0 361 5 = some 28 := by decide +kernel
theorem sr_361_6 : am_rf am_S0 361 6 = some 355 := by decide +kernel
theorem sr_363_0 : am_rf am_S0 363 0 = some 28 := by decide +kernel
theorem sr_363_1 : am_rf am_S0 363 1 = some 364 := by decide +kernel
theorem sr_376_0 : am_rf am_S0 376 0 = some 377 := by decide +kernel
theorem sr_376_2 : am_rf am_S0 376 2 = some 28 := by decide +kernel
theorem sr_378_0 : am_rf am_S0 378 0 = some 379 := by decide +kernel
theorem sr_378_1 : am_rf am_S0 378 1 = some 380 := by decide +kernel
theorem sr_378_2 : am_rf am_S0 378 2 = some 381 := by decide +kernel
theorem sr_378_4 : am_rf am_S0 378 4 = some 382 := by decide +kernel
theorem sr_378_8 : am_rf am_S0 378 8 = some 383 := by decide +kernel
theorem sr_378_10 : am_rf am_S0 378 10 = some 384 := by decide +kernel
theorem sr_378_11 : am_rf am_S0 378 11 = some 385 := by decide +kernel
theorem sr_378_12 : am_rf am_S0 378 12 = some 386 := by decide +kernel
theorem sr_378_14 : am_rf am_S0 378 14 = some 387 := by decide +kernel
theorem sr_378_20 : am_rf am_S0 378 20 = some 388 := by decide +kernel
theorem sr_378_21 : am_rf am_S0 378 21 = some 389 := by decide +kernel
theorem sr_378_22 : am_rf am_S0 378 22 = some 390 := by decide +kernel
theorem sr_378_23 : am_rf am_S0 378 23 = some 391 := by decide +kernel
theorem sr_378_24 : am_rf am_S0 378 24 = some 392 := by decide +kernel
theorem sr_378_25 : am_rf am_S0 378 25 = some 393 := by decide +kernel
theorem sr_378_26 : am_rf am_S0 378 26 = some 394 := by decide +kernel
theorem am_vs (a : Nat) : va_rf (some a) = .ref a := rfl
def am_lg (a : Nat) : Prop := a ∈ am_lgs
theorem am_lgK : ∀ a ∈ am_lgs, am_kd am_S0 a = 8 ∧ (∀ i, i < 11 → am_kd am_S0 (a + 1 + i) = 1) ∧ (∀ i, i < 11 → am_rf am_S0 a (5 + i) = some (a + 1 + i)) ∧ (∀ i, i < 3 → am_ln am_S0 (a + 1 + i) = 8) ∧ (∀ i, i < 7 → am_ln am_S0 (a + 4 + i) = 4) ∧ am_ln am_S0 (a + 11) = 24 := by decide +kernel
theorem am_lg.k {a : Nat} (h : am_lg a) : am_kd am_S0 a = 8 := (am_lgK a h).1
theorem am_lg.k1 {a : Nat} (h : am_lg a) : am_kd am_S0 (a + 1) = 1 := by have := (am_lgK a h).2.1 0 (by decide); exact this
theorem am_lg.r1 {a : Nat} (h : am_lg a) : am_rf am_S0 a 5 = some (a + 1) := by have := (am_lgK a h).2.2.1 0 (by decide); exact this
theorem am_lg.l1 {a : Nat} (h : am_lg a) : am_ln am_S0 (a + 1) = 8 := by have := (am_lgK a h).2.2.2.1 0 (by decide); exact this
theorem am_lg.k2 {a : Nat} (h : am_lg a) : am_kd am_S0 (a + 2) = 1 := by have := (am_lgK a h).2.1 1 (by decide); exact this
theorem am_lg.r2 {a : Nat} (h : am_lg a) : am_rf am_S0 a 6 = some (a + 2) := by have := (am_lgK a h).2.2.1 1 (by decide); exact this
theorem am_lg.l2 {a : Nat} (h : am_lg a) : am_ln am_S0 (a + 2) = 8 := by have := (am_lgK a h).2.2.2.1 1 (by decide); exact this
theorem am_lg.k3 {a : Nat} (h : am_lg a) : am_kd am_S0 (a + 3) = 1 := by have := (am_lgK a h).2.1 2 (by decide); exact this
theorem am_lg.r3 {a : Nat} (h : am_lg a) : am_rf am_S0 a 7 = some (a + 3) := by have := (am_lgK a h).2.2.1 2 (by decide); exact this
theorem am_lg.l3 {a : Nat} (h : am_lg a) : am_ln am_S0 (a + 3) = 8 := by have := (am_lgK a h).2.2.2.1 2 (by decide); exact this
theorem am_lg.k4 {a : Nat} (h : am_lg a) : am_kd am_S0 (a + 4) = 1 := by have := (am_lgK a h).2.1 3 (by decide); exact this
theorem am_lg.r4 {a : Nat} (h : am_lg a) : am_rf am_S0 a 8 = some (a + 4) := by have := (am_lgK a h).2.2.1 3 (by decide); exact this
theorem am_lg.l4 {a : Nat} (h : am_lg a) : am_ln am_S0 (a + 4) = 4 := by have := (am_lgK a h).2.2.2.2.1 0 (by decide); exact this
theorem am_lg.k5 {a : Nat} (h : am_lg a) : am_kd am_S0 (a + 5) = 1 := by have := (am_lgK a h).2.1 4 (by decide); exact this
theorem am_lg.r5 {a : Nat} (h : am_lg a) : am_rf am_S0 a 9 = some (a + 5) := by have := (am_lgK a h).2.2.1 4 (by decide); exact this
theorem am_lg.l5 {a : Nat} (h : am_lg a) : am_ln am_S0 (a + 5) = 4 := by have := (am_lgK a h).2.2.2.2.1 1 (by decide); exact this
theorem am_lg.k6 {a : Nat} (h : am_lg a) : am_kd am_S0 (a + 6) = 1 := by have := (am_lgK a h).2.1 5 (by decide); exact this
theorem am_lg.r6 {a : Nat} (h : am_lg a) : am_rf am_S0 a 10 = some (a + 6) := by have := (am_lgK a h).2.2.1 5 (by decide); exact this
theorem am_lg.l6 {a : Nat} (h : am_lg a) : am_ln am_S0 (a + 6) = 4 := by have := (am_lgK a h).2.2.2.2.1 2 (by decide); exact this
theorem am_lg.k7 {a : Nat} (h : am_lg a) : am_kd am_S0 (a + 7) = 1 := by have := (am_lgK a h).2.1 6 (by decide); exact this
theorem am_lg.r7 {a : Nat} (h : am_lg a) : am_rf am_S0 a 11 = some (a + 7) := by have := (am_lgK a h).2.2.1 6 (by decide); exact this
theorem am_lg.l7 {a : Nat} (h : am_lg a) : am_ln am_S0 (a + 7) = 4 := by have := (am_lgK a h).2.2.2.2.1 3 (by decide); exact this
theorem am_lg.k8 {a : Nat} (h : am_lg a) : am_kd am_S0 (a + 8) = 1 := by have := (am_lgK a h).2.1 7 (by decide); exact this
theorem am_lg.r8 {a : Nat} (h : am_lg a) : am_rf am_S0 a 12 = some (a + 8) := by have := (am_lgK a h).2.2.1 7 (by decide); exact this
theorem am_lg.l8 {a : Nat} (h : am_lg a) : am_ln am_S0 (a + 8) = 4 := by have := (am_lgK a h).2.2.2.2.1 4 (by decide); exact this
theorem am_lg.k9 {a : Nat} (h : am_lg a) : am_kd am_S0 (a + 9) = 1 := by have := (am_lgK a h).2.1 8 (by decide); exact this
theorem am_lg.r9 {a : Nat} (h : am_lg a) : am_rf am_S0 a 13 = some (a + 9) := by have := (am_lgK a h).2.2.1 8 (by decide); exact this
theorem am_lg.l9 {a : Nat} (h : am_lg a) : am_ln am_S0 (a + 9) = 4 := by have := (am_lgK a h).2.2.2.2.1 5 (by decide); exact this
theorem am_lg.k10 {a : Nat} (h : am_lg a) : am_kd am_S0 (a + 10) = 1 := by have := (am_lgK a h).2.1 9 (by decide); exact this
theorem am_lg.r10 {a : Nat} (h : am_lg a) : am_rf am_S0 a 14 = some (a + 10) := by have := (am_lgK a h).2.2.1 9 (by decide); exact this
theorem am_lg.l10 {a : Nat} (h : am_lg a) : am_ln am_S0 (a + 10) = 4 := by have := (am_lgK a h).2.2.2.2.1 6 (by decide); exact this
theorem am_lg.k11 {a : Nat} (h : am_lg a) : am_kd am_S0 (a + 11) = 1 := by have := (am_lgK a h).2.1 10 (by decide); exact this
theorem am_lg.r11 {a : Nat} (h : am_lg a) : am_rf am_S0 a 15 = some (a + 11) := by have := (am_lgK a h).2.2.1 10 (by decide); exact this
theorem am_lg.l11 {a : Nat} (h : am_lg a) : am_ln am_S0 (a + 11) = 24 := by have := (am_lgK a h).2.2.2.2.2; exact this
theorem am_lg28 : am_lg 28 := (show 28 ∈ am_lgs by decide +kernel)
theorem am_lg16 : am_lg 16 := (show 16 ∈ am_lgs by decide +kernel)
theorem am_lg364 : am_lg 364 := (show 364 ∈ am_lgs by decide +kernel)
theorem am_lgB : ∀ i, i < 24 → am_lg (42 + 12 * i) ∧ am_rf am_S0 41 i = some (42 + 12 * i) := (show ∀ i, i < 24 → (42 + 12 * i) ∈ am_lgs ∧ am_rf am_S0 41 i = some (42 + 12 * i) by decide +kernel)
theorem am_lgI : ∀ i, i < 2 → am_lg (331 + 12 * i) ∧ am_rf am_S0 330 i = some (331 + 12 * i) := (show ∀ i, i < 2 → (331 + 12 * i) ∈ am_lgs ∧ am_rf am_S0 330 i = some (331 + 12 * i) by decide +kernel)
theorem am_it : ∀ i, i < 8 → am_rf am_S0 4 i = some (5 + i) ∧ am_kd am_S0 (5 + i) = 1 ∧ am_ln am_S0 (5 + i) = 40 := by decide +kernel
theorem am_ci (x : Int32) : (Value.int x).category = 1 := rfl
theorem am_cr (x : Nat) : (Value.ref x).category = 1 := rfl
theorem am_ca (x : Nat) : (Value.retAddr x).category = 1 := rfl
theorem am_b0 {c : Prop} [Decidable c] : ((if c then (1 : Int32) else 0) = 0) = ¬ c := by by_cases h : c <;> simp [h]
theorem am_b1 {c : Prop} [Decidable c] : ((if c then (1 : Int32) else 0) ≠ 0) = c := by by_cases h : c <;> simp [h]
theorem am_bb {c : Prop} [Decidable c] : (if c then (1 : Int32) else 0) = 0 ∨ (if c then (1 : Int32) else 0) = 1 := by by_cases h : c <;> simp [h]
theorem am_ts (v : Value) : (some v).toList = [v] := rfl
theorem am_tn : (none : Option Value).toList = [] := rfl

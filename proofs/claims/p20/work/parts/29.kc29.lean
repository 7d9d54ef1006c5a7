theorem kn10000 : (10000 : Int32).toInt = 10000 := by decide
theorem kn30 : (30 : Int32).toInt = 30 := by decide
theorem oz390 {a0 a1 : Int} (h0 : a0 ≠ a1) (h1 : a0 = a1) (h2 : a1 = (-1)) : False := by omega
theorem oz391 {a0 a1 a2 : Int} (h0 : a0 ≤ a1) (h1 : a1 = 0) (h2 : a2 = 1) : a0 + a2 ≤ 2147483647 := by omega
theorem oz392 {a0 : Int} (h0 : (9 : Int) ≤ a0) : (0 : Int) ≤ a0 := by omega
theorem oz393 {a0 a1 : Int} (h0 : a0 < a1) (h1 : a1 = 18) : a0 < 31 := by omega
theorem oz394 {a0 a1 a2 : Int} (h0 : a0 < a1) (h1 : a1 = 18) (h2 : a2 = 0) : a0 = 18 → (0 : Int) ≤ a2 ∧ a2 ≤ 5 := by omega
theorem oz395 {a0 a1 a2 : Int} (h0 : a0 < a1) (h1 : a1 = 18) (h2 : a2 = 0) : 19 ≤ a0 → a0 ≤ 24 → (0 : Int) ≤ a2 ∧ a2 ≤ 7 := by omega
theorem oz396 {a0 a1 : Int} (h0 : (9 : Int) ≤ a0) (h1 : a1 = 1) : (-2147483648 : Int) ≤ a0 + a1 := by omega
theorem oz397 {a0 a1 a2 : Int} (h0 : a0 < a1) (h1 : a1 = 18) (h2 : a2 = 1) : a0 + a2 ≤ 2147483647 := by omega
theorem oz398 {a0 a1 a2 : Int} (h0 : (9 : Int) ≤ a0) (h1 : a1 = a0 + a2) (h2 : a2 = 1) : (9 : Int) ≤ a1 := by omega
theorem oz399 {a0 a1 a2 : Int} (h0 : a0 = a1 + a2) (h1 : a2 = 1) : (18 - a0) < (18 - a1) := by omega
theorem oz400 {a0 a1 : Int} (h0 : a0 < a1) (h1 : a1 = 18) : (1 : Int) ≤ (18 - a0) := by omega
theorem oz401 {a0 : Int} (h0 : a0 = 9) : (9 : Int) ≤ a0 := by omega
theorem oz402 {a0 a1 a2 : Int} (h0 : a0 < a1) (h1 : a0 = 0) (h2 : a2 = 1) : (-2147483648 : Int) ≤ a1 + a2 := by omega
theorem oz403 {a0 a1 a2 a3 : Int} (h0 : a0 < a1) (h1 : a1 ≤ a2) (h2 : a2 = 20) (h3 : a3 = 1) : a0 + a3 ≤ 2147483647 := by omega
theorem oz404 {a0 a1 a2 a3 : Int} (h0 : a0 < a1) (h1 : a2 = a1 + a3) (h2 : a0 = 0) (h3 : a3 = 1) : (0 : Int) ≤ a2 := by omega
theorem oz405 {a0 a1 : Int} (h0 : a0 = a1) (h1 : (0 : Int) ≤ a0) (h2 : a1 = (-1)) : False := by omega
theorem oz406 {a0 a1 : Int} (h0 : a0 ≤ a1) (h1 : a1 ≤ 20) : a0 < 21 := by omega
theorem oz407 {a0 : Int} (h0 : a0 ≤ 7) : a0 ≤ 7 := by omega
theorem oz408 {a0 a1 a2 a3 : Int} (h0 : a0 = a1) (h1 : a1 ≤ 20) (h2 : a2 = a0 + a3) (h3 : a3 = 1) : a2 ≤ 21 := by omega
theorem oz409 {a0 a1 a2 a3 : Int} (h0 : a0 = a1) (h1 : a2 = a0 + a3) (h2 : a3 = 1) : a2 = (a1 + 1) := by omega
theorem oz410 {a0 a1 a2 : Int} (h0 : a0 < a1) (h1 : (0 : Int) ≤ a0) (h2 : a2 = 1) : (-2147483648 : Int) ≤ a1 - a2 := by omega
theorem oz411 {a0 a1 a2 a3 : Int} (h0 : a0 = a1) (h1 : a1 ≤ 20) (h2 : a2 ≤ a0) (h3 : a3 = 1) : a2 - a3 ≤ 2147483647 := by omega
theorem oz412 {a0 a1 a2 a3 : Int} (h0 : a0 < a1) (h1 : (0 : Int) ≤ a0) (h2 : a2 = a1 - a3) (h3 : a3 = 1) : (0 : Int) ≤ a2 := by omega
theorem oz413 {a0 a1 a2 a3 a4 : Int} (h0 : a0 = a1) (h1 : a1 ≤ 20) (h2 : a2 ≤ a0) (h3 : a3 = a2 - a4) (h4 : a4 = 1) : a3 < 21 := by omega
theorem oz414 {a0 a1 : Int} (h0 : a0 < a1) (h1 : (0 : Int) ≤ a0) : (0 : Int) ≤ a1 := by omega
theorem oz415 {a0 a1 a2 : Int} (h0 : a0 = a1) (h1 : a1 ≤ 20) (h2 : a2 ≤ a0) : a2 < 21 := by omega
theorem oz416 {a0 a1 a2 : Int} (h0 : a0 < a1) (h1 : (0 : Int) ≤ a0) (h2 : a2 = (-1)) : (-2147483648 : Int) ≤ a1 + a2 := by omega
theorem oz417 {a0 a1 a2 a3 : Int} (h0 : a0 = a1) (h1 : a1 ≤ 20) (h2 : a2 ≤ a0) (h3 : a3 = (-1)) : a2 + a3 ≤ 2147483647 := by omega
theorem oz418 {a0 a1 a2 a3 : Int} (h0 : a0 ≤ a1) (h1 : a2 = a0 + a3) (h2 : a3 = (-1)) : a2 ≤ a1 := by omega
theorem oz419 {a0 a1 a2 a3 : Int} (h0 : a0 < a1) (h1 : a2 = a1 + a3) (h2 : a3 = (-1)) : a0 ≤ a2 := by omega
theorem oz420 {a0 a1 a2 a3 : Int} (h0 : a0 = a1 + a2) (h1 : a2 = (-1)) : (a0 - a3) < (a1 - a3) := by omega
theorem oz423 {a0 a1 : Int} (h0 : a0 ≤ 8) (h1 : (0 : Int) ≤ a1) (h2 : a1 < a0) : ((0 : Int) ≤ a1) ∧ (a1 ≤ 7) := by omega
theorem oz424 {a0 a1 : Int} (h0 : a0 ≤ 21) (h1 : a1 = 1) : a0 - a1 ≤ 2147483647 := by omega
theorem oz425 {a0 a1 a2 : Int} (h0 : (1 : Int) ≤ a0) (h1 : a1 = a0 - a2) (h2 : a2 = 1) : (0 : Int) ≤ a1 := by omega
theorem oz426 {a0 a1 a2 : Int} (h0 : a0 ≤ 21) (h1 : a1 = a0 - a2) (h2 : a2 = 1) : a1 ≤ 21 := by omega
theorem oz427 {a0 a1 a2 a3 : Int} (h0 : a0 = a1) (h1 : a1 = a2 - a3) (h2 : a3 = 1) : a0 = (a2 - 1) := by omega
theorem oz428 {a0 a1 a2 a3 a4 a5 : Int} (h0 : a0 < a1) (h1 : a1 = a2) (h2 : a3 ≤ 21) (h3 : a2 = a3 - a4) (h4 : a5 = a0 + a4) (h5 : a4 = 1) : a5 < 21 := by omega
theorem oz429 {a0 a1 a2 : Int} (h0 : a0 = a1) (h1 : (0 : Int) ≤ a2) (h2 : a1 = (a2 + 1)) : (1 : Int) ≤ a0 := by omega
theorem oz430 {a0 a1 a2 : Int} (h0 : a0 ≤ a1) (h1 : a1 ≤ 21) (h2 : a2 = 1) : a0 + a2 ≤ 2147483647 := by omega
theorem oz432 {a0 : Int} (h0 : a0 ≤ 19) : a0 ≤ 19 := by omega
theorem oz433 {a0 a1 a2 a3 : Int} (h0 : a0 = a1 + a2) (h1 : a2 = 1) : ((a3 + 1) - a0) < ((a3 + 1) - a1) := by omega
theorem oz434 {a0 a1 : Int} (h0 : a0 ≤ a1) : (1 : Int) ≤ ((a1 + 1) - a0) := by omega
theorem oz435 {a0 a1 : Int} (h0 : a0 ≠ a1) (h1 : a0 ≤ 20) (h2 : a1 = 20) : a0 ≤ 19 := by omega
theorem oz436 {a0 a1 a2 : Int} (h0 : a0 ≤ a1) (h1 : (0 : Int) ≤ a0) (h2 : a1 = a2) : ((0 : Int) ≤ a0) ∧ (a0 ≤ a2) := by omega
theorem oz437 {a0 a1 : Int} (h0 : a0 = a1) (h1 : a0 ≤ 19) : a1 ≤ 20 := by omega
theorem oz438 {a0 a1 a2 a3 a4 : Int} (h0 : a0 = a1) (h1 : a2 = a3) (h2 : a1 = (a3 + 1)) (h3 : a4 = (a0 - 1)) : a2 = a4 := by omega
theorem oz440 {a0 : Int} (h0 : a0 ≤ 19) : a0 ≤ 20 := by omega
theorem oz441 {a0 a1 : Int} (h0 : a0 < a1) (h1 : a1 ≤ 8) (h2 : (0 : Int) ≤ a0) : ((0 : Int) ≤ a0) ∧ (a0 ≤ 7) := by omega
theorem oz442 {a0 a1 a2 : Int} (h0 : a0 < a1) (h1 : a1 ≤ 8) (h2 : a2 = 1) : a0 + a2 ≤ 2147483647 := by omega
theorem oz443 {a0 a1 a2 a3 : Int} (h0 : a0 = a1) (h1 : a2 ≤ 19) (h2 : a1 = (a2 + 1)) (h3 : a3 = (a0 - 1)) : a3 ≤ 19 := by omega
theorem oz445 {a0 a1 a2 a3 a4 a5 a6 : Int} (h0 : a0 = a1) (h1 : a2 = a0) (h2 : a3 = a2) (h3 : a4 = a5 + a6) (h4 : a6 = 1) : (a3 - a4) < (a1 - a5) := by omega
theorem oz446 {a0 a1 a2 : Int} (h0 : a0 ≤ a1) (h1 : a1 ≤ a2) (h2 : a0 = 0) : ((0 : Int) ≤ a1) ∧ (a1 ≤ a2) := by omega
theorem oz447 {a0 a1 a2 a3 a4 : Int} (h0 : a0 = a1) (h1 : a2 ≤ a3) (h2 : a1 = (a3 + 1)) (h3 : a4 = (a0 - 1)) : a2 ≤ a4 := by omega
theorem oz448 {a0 a1 : Int} (h0 : a0 ≤ 20) (h1 : a1 = 1) : a0 + a1 ≤ 2147483647 := by omega
theorem oz449 {a0 : Int} (h0 : a0 ≤ 19) : a0 < 21 := by omega
theorem oz450 {a0 a1 : Int} (h0 : a0 ≤ 19) (h1 : a1 = 1) : a0 + a1 ≤ 2147483647 := by omega
theorem oz451 {a0 a1 a2 : Int} (h0 : a0 ≤ 19) (h1 : a1 = a0 + a2) (h2 : a2 = 1) : a1 < 21 := by omega
theorem oz452 {a0 a1 a2 a3 : Int} (h0 : a0 < a1) (h1 : a1 ≤ 21) (h2 : (0 : Int) ≤ a2) (h3 : a0 = a2 + a3) (h4 : a3 = 1) : ((0 : Int) ≤ a2) ∧ (a2 ≤ 19) := by omega
theorem oz453 {a0 a1 a2 a3 : Int} (h0 : a0 < a1) (h1 : a1 ≤ 21) (h2 : (0 : Int) ≤ a2) (h3 : a0 = a2 + a3) (h4 : a3 = 1) : ((0 : Int) ≤ a0) ∧ (a0 ≤ 20) := by omega
theorem oz454 {a0 a1 a2 a3 : Int} (h0 : a0 = a1) (h1 : a2 = a0) (h2 : a3 = a2) (h3 : a1 ≤ 20) : a3 ≤ 20 := by omega
theorem oz455 {a0 a1 a2 a3 : Int} (h0 : a0 < a1) (h1 : a0 = a2 + a3) (h2 : a3 = 1) : (1 : Int) ≤ (a1 - a2) := by omega
theorem oz456 {a0 : Int} (h0 : a0 = 0) : ((0 : Int) ≤ a0) ∧ (a0 ≤ 20) := by omega
theorem oz457 {a0 a1 : Int} (h0 : a0 = a1) (h1 : a1 ≤ 20) : a0 ≤ 20 := by omega
theorem oz458 {a0 a1 a2 : Int} (h0 : a0 < a1) (h1 : a1 = 0) : ¬ (((0 : Int) ≤ a0) ∧ (((a0 / 10) < a2) ∧ ((a0 % 10) < a2)) ∧ ((a0 / 10) ≠ (a0 % 10))) := by omega
theorem oz459 {a0 a1 a2 a3 : Int} (h0 : a0 = a1) (h1 : a0 = (a2 / 10)) (h2 : a1 = (a2 % 10)) : ¬ (((0 : Int) ≤ a2) ∧ (((a2 / 10) < a3) ∧ ((a2 % 10) < a3)) ∧ ((a2 / 10) ≠ (a2 % 10))) := by omega
theorem oz460 {a0 a1 a2 a3 a4 : Int} (h0 : a0 ≠ a1) (h1 : a2 ≤ a3) (h2 : a0 = (a3 / 10)) (h3 : a1 = (a3 % 10)) (h4 : a0 < a4) (h5 : a1 < a4) (h6 : a2 = 0) : ((0 : Int) ≤ a3) ∧ (((a3 / 10) < a4) ∧ ((a3 % 10) < a4)) ∧ ((a3 / 10) ≠ (a3 % 10)) := by omega
theorem oz461 {a0 a1 a2 : Int} (h0 : a0 = (a1 % 10)) (h1 : ¬ (((0 : Int) ≤ a0) ∧ (a0 < a2))) : ¬ (((0 : Int) ≤ a1) ∧ (((a1 / 10) < a2) ∧ ((a1 % 10) < a2)) ∧ ((a1 / 10) ≠ (a1 % 10))) := by omega
theorem oz462 {a0 a1 a2 a3 : Int} (h0 : a0 ≤ a1) (h1 : a2 = (a1 / 10)) (h2 : ¬ (((0 : Int) ≤ a2) ∧ (a2 < a3))) (h3 : a0 = 0) : ¬ (((0 : Int) ≤ a1) ∧ (((a1 / 10) < a3) ∧ ((a1 % 10) < a3)) ∧ ((a1 / 10) ≠ (a1 % 10))) := by omega
theorem oz463 {a0 : Int} (h0 : a0 = 0) : ((0 : Int) ≤ a0) ∧ (a0 ≤ 7) := by omega
theorem oz464 {a0 a1 : Int} (h0 : a0 = (a1 / 10)) (h1 : (0 : Int) ≤ a1) : (-2147483648 : Int) ≤ 8 * a0 := by omega
theorem oz465 {a0 a1 a2 : Int} (h0 : a0 ≤ 8) (h1 : a1 = (a2 / 10)) (h2 : (a2 / 10) < a0) (h3 : (a2 % 10) < a0) (h4 : (a2 / 10) ≠ (a2 % 10)) : 8 * a1 ≤ 2147483647 := by omega
theorem oz466 {a0 a1 a2 a3 : Int} (h0 : a0 = (a1 / 10)) (h1 : a2 = 8 * a0) (h2 : a3 = (a1 % 10)) (h3 : (0 : Int) ≤ a1) : (-2147483648 : Int) ≤ a2 + a3 := by omega
theorem oz467 {a0 a1 a2 a3 a4 : Int} (h0 : a0 ≤ 8) (h1 : a1 = (a2 / 10)) (h2 : a3 = 8 * a1) (h3 : a4 = (a2 % 10)) (h4 : (a2 / 10) < a0) (h5 : (a2 % 10) < a0) (h6 : (a2 / 10) ≠ (a2 % 10)) : a3 + a4 ≤ 2147483647 := by omega
theorem oz468 {a0 a1 a2 a3 a4 : Int} (h0 : a0 = (a1 / 10)) (h1 : a2 = 8 * a0) (h2 : a3 = (a1 % 10)) (h3 : a4 = a2 + a3) (h4 : (0 : Int) ≤ a1) : (0 : Int) ≤ a4 := by omega
theorem oz469 {a0 a1 a2 a3 a4 a5 : Int} (h0 : a0 ≤ 8) (h1 : a1 = (a2 / 10)) (h2 : a3 = 8 * a1) (h3 : a4 = (a2 % 10)) (h4 : a5 = a3 + a4) (h5 : (a2 / 10) < a0) (h6 : (a2 % 10) < a0) (h7 : (a2 / 10) ≠ (a2 % 10)) : a5 < 64 := by omega
theorem oz470 {a0 : Int} (h0 : (0 : Int) ≤ a0) : (-2147483648 : Int) ≤ 9 * a0 := by omega
theorem oz471 {a0 a1 : Int} (h0 : a0 < a1) (h1 : a1 = 8) : 9 * a0 ≤ 2147483647 := by omega
theorem oz472 {a0 a1 : Int} (h0 : (0 : Int) ≤ a0) (h1 : a1 = 9 * a0) : (0 : Int) ≤ a1 := by omega
theorem oz473 {a0 a1 a2 : Int} (h0 : a0 < a1) (h1 : a2 = 9 * a0) (h2 : a1 = 8) : a2 < 64 := by omega
theorem oz474 {a0 a1 a2 : Int} (h0 : a0 < a1) (h1 : a1 = 8) (h2 : a2 = 1) : a0 + a2 ≤ 2147483647 := by omega
theorem oz475 {a0 a1 a2 : Int} (h0 : a0 = a1 + a2) (h1 : a2 = 1) : (8 - a0) < (8 - a1) := by omega
theorem oz476 {a0 a1 : Int} (h0 : a0 < a1) (h1 : a1 = 8) : (1 : Int) ≤ (8 - a0) := by omega
theorem oz477 {a0 a1 : Int} (h0 : (0 : Int) ≤ a0) (h1 : a1 = (a0 % 8)) : (-2147483648 : Int) ≤ a0 - a1 := by omega
theorem oz478 {a0 a1 a2 : Int} (h0 : a0 < a1) (h1 : a2 = (a0 % 8)) (h2 : a1 = 64) : a0 - a2 ≤ 2147483647 := by omega
theorem oz479 {a0 a1 a2 a3 : Int} (h0 : (0 : Int) ≤ a0) (h1 : (0 : Int) ≤ a1) (h2 : a2 = (a0 % 8)) (h3 : a3 = a0 - a2) : (-2147483648 : Int) ≤ a3 + a1 := by omega
theorem oz480 {a0 a1 a2 a3 a4 a5 : Int} (h0 : a0 < a1) (h1 : a2 < a3) (h2 : a4 = (a2 % 8)) (h3 : a5 = a2 - a4) (h4 : a1 = 8) (h5 : a3 = 64) : a5 + a0 ≤ 2147483647 := by omega
theorem oz481 {a0 a1 a2 a3 a4 : Int} (h0 : (0 : Int) ≤ a0) (h1 : (0 : Int) ≤ a1) (h2 : a2 = (a0 % 8)) (h3 : a3 = a0 - a2) (h4 : a4 = a3 + a1) : (0 : Int) ≤ a4 := by omega
theorem oz482 {a0 a1 a2 a3 a4 a5 a6 : Int} (h0 : a0 < a1) (h1 : a2 < a3) (h2 : a4 = (a2 % 8)) (h3 : a5 = a2 - a4) (h4 : a6 = a5 + a0) (h5 : a1 = 8) (h6 : a3 = 64) : a6 < 64 := by omega
theorem oz483 {a0 a1 : Int} (h0 : a0 < a1) (h1 : a1 = 8) : 8 * a0 ≤ 2147483647 := by omega
theorem oz484 {a0 a1 a2 a3 : Int} (h0 : (0 : Int) ≤ a0) (h1 : a1 = (a2 % 8)) (h2 : a3 = 8 * a0) : (-2147483648 : Int) ≤ a3 + a1 := by omega
theorem oz485 {a0 a1 a2 a3 a4 : Int} (h0 : a0 < a1) (h1 : a2 = (a3 % 8)) (h2 : a4 = 8 * a0) (h3 : a1 = 8) : a4 + a2 ≤ 2147483647 := by omega
theorem oz486 {a0 a1 a2 a3 a4 : Int} (h0 : (0 : Int) ≤ a0) (h1 : a1 = (a2 % 8)) (h2 : a3 = 8 * a0) (h3 : a4 = a3 + a1) : (0 : Int) ≤ a4 := by omega
theorem oz487 {a0 a1 a2 a3 a4 a5 : Int} (h0 : a0 < a1) (h1 : a2 = (a3 % 8)) (h2 : a4 = 8 * a0) (h3 : a5 = a4 + a2) (h4 : a1 = 8) : a5 < 64 := by omega
theorem oz488 {a0 a1 : Int} (h0 : a0 < a1) (h1 : (0 : Int) ≤ a0) (h2 : a1 = 8) : ((0 : Int) ≤ a0) ∧ (a0 ≤ 7) := by omega
theorem oz489 {a0 : Int} (h0 : (1 : Int) ≤ a0) : (0 : Int) ≤ a0 := by omega
theorem oz490 {a0 a1 : Int} (h0 : a0 < a1) (h1 : a1 ≤ 8) : a0 < 31 := by omega
theorem oz491 {a0 a1 : Int} (h0 : (1 : Int) ≤ a0) (h1 : a1 = 1) : (-2147483648 : Int) ≤ a0 + a1 := by omega
theorem oz492 {a0 a1 a2 : Int} (h0 : (1 : Int) ≤ a0) (h1 : a1 = a0 + a2) (h2 : a2 = 1) : (1 : Int) ≤ a1 := by omega
theorem oz493 {a0 a1 : Int} (h0 : a0 < a1) (h1 : a1 ≤ 8) (h2 : (1 : Int) ≤ a0) : ((0 : Int) ≤ a0) ∧ (a0 ≤ 7) := by omega
theorem oz494 {a0 : Int} (h0 : a0 = 1) : (1 : Int) ≤ a0 := by omega
theorem oz495 {a0 a1 : Int} (h0 : a0 < a1) (h1 : a1 = 0) : ¬ (((0 : Int) ≤ a0) ∧ (((0 : Int) ≤ (a0 / 10)) ∧ ((a0 / 10) ≤ 5)) ∧ ((a0 % 10) ≤ 5)) := by omega
theorem oz496 {a0 a1 a2 a3 : Int} (h0 : a0 ≤ a1) (h1 : a2 = (a1 / 10)) (h2 : a3 = (a1 % 10)) (h3 : (0 : Int) ≤ a2) (h4 : a2 ≤ 5) (h5 : a3 ≤ 5) (h6 : a0 = 0) : ((0 : Int) ≤ a1) ∧ (((0 : Int) ≤ (a1 / 10)) ∧ ((a1 / 10) ≤ 5)) ∧ ((a1 % 10) ≤ 5) := by omega
theorem oz497 {a0 a1 : Int} (h0 : a0 = (a1 % 10)) (h1 : ¬ (((0 : Int) ≤ a0) ∧ (a0 ≤ 5))) : ¬ (((0 : Int) ≤ a1) ∧ (((0 : Int) ≤ (a1 / 10)) ∧ ((a1 / 10) ≤ 5)) ∧ ((a1 % 10) ≤ 5)) := by omega
theorem oz498 {a0 a1 a2 : Int} (h0 : a0 ≤ a1) (h1 : a2 = (a1 / 10)) (h2 : ¬ (((0 : Int) ≤ a2) ∧ (a2 ≤ 5))) (h3 : a0 = 0) : ¬ (((0 : Int) ≤ a1) ∧ (((0 : Int) ≤ (a1 / 10)) ∧ ((a1 / 10) ≤ 5)) ∧ ((a1 % 10) ≤ 5)) := by omega
theorem oz499 {a0 a1 : Int} (h0 : (a0 / 10) ≤ 5) (h1 : (0 : Int) ≤ a0) (h2 : (a0 % 10) ≤ 5) (h3 : a1 = (a0 / 10)) : ((0 : Int) ≤ a1) ∧ (a1 ≤ 5) := by omega
theorem oz500 {a0 a1 : Int} (h0 : (a0 % 10) ≤ 5) (h1 : a1 = (a0 % 10)) : ((0 : Int) ≤ a1) ∧ (a1 ≤ 5) := by omega
theorem oz501 {a0 : Int} (h0 : (a0 < 0) ∨ (a0 = 0)) : (a0 < 0) ∨ (a0 = 0) := by omega
theorem oz502 {a0 a1 : Int} (h0 : a0 < a1) (h1 : a1 = 0) : (a0 < 0) ∨ (a0 = 0) := by omega
theorem oz503 {a0 : Int} (h0 : (0 : Int) ≤ (a0 / 10)) (h1 : (a0 / 10) ≤ 5) : ((0 : Int) ≤ (a0 / 10)) ∧ ((a0 / 10) ≤ 5) := by omega
theorem oz504 {a0 : Int} (h0 : (a0 % 10) ≤ 5) : (a0 % 10) ≤ 5 := by omega
theorem oz505 {a0 a1 : Int} (h0 : a0 = (a1 / 10)) (h1 : (0 : Int) ≤ a1) (h2 : (a1 / 10) ≤ 5) (h3 : (a1 % 10) ≤ 5) : ((0 : Int) ≤ a0) ∧ (a0 ≤ 5) := by omega
theorem oz506 {a0 a1 : Int} (h0 : a0 < a1) (h1 : (0 : Int) ≤ a0) (h2 : a1 ≤ 60) : ((0 : Int) ≤ a0) ∧ (a0 ≤ 59) := by omega
theorem oz507 {a0 a1 a2 : Int} (h0 : a0 = a1 + a2) (h1 : a2 = 1) : (60 - a0) < (60 - a1) := by omega
theorem oz508 {a0 a1 : Int} (h0 : a0 < a1) (h1 : a1 ≤ 60) : (1 : Int) ≤ (60 - a0) := by omega
theorem oz509 {a0 a1 : Int} (h0 : a0 = (a1 % 10)) (h1 : (a1 % 10) ≤ 5) : ((0 : Int) ≤ a0) ∧ (a0 ≤ 5) := by omega
theorem oz510 {a0 a1 a2 : Int} (h0 : a0 ≠ a1) (h1 : a0 ≠ a2) (h2 : a0 ≤ a1) (h3 : a2 ≤ a0) (h4 : a1 = 1) (h5 : a2 = 0) : False := by omega
theorem oz511 {a0 a1 : Int} (h0 : a0 = a1) (h1 : a0 ≠ a1) (h2 : a0 ≤ a1) (h3 : a1 = 1) : False := by omega
theorem oz512 {a0 a1 : Int} (h0 : a0 < a1) (h1 : a1 ≤ 8) : a0 ≤ 7 := by omega
theorem oz513 {a0 a1 : Int} (h0 : a0 < a1) (h1 : a1 ≤ 8) : a0 ≤ 8 := by omega
theorem oz514 {a0 a1 a2 : Int} (h0 : a0 < a1) (h1 : a2 ≤ a0) (h2 : a1 ≤ 21) (h3 : a2 = 0) : ((0 : Int) ≤ a0) ∧ (a0 ≤ 20) := by omega
theorem oz515 {a0 a1 a2 : Int} (h0 : a0 = a1) (h1 : a0 = a2) (h2 : a1 = 1) (h3 : a2 = 0) : False := by omega
theorem oz516 {a0 a1 : Int} (h0 : ((-1) : Int) ≤ a0) (h1 : a1 = (-1)) : (-2147483648 : Int) ≤ a0 + a1 := by omega
theorem oz517 {a0 a1 : Int} (h0 : a0 ≤ 2147483647) (h1 : a1 = (-1)) : a0 + a1 ≤ 2147483647 := by omega
theorem oz518 {a0 a1 a2 a3 : Int} (h0 : a0 ≤ a1) (h1 : a2 = a1 + a3) (h2 : a0 = 0) (h3 : a3 = (-1)) : ((-1) : Int) ≤ a2 := by omega
theorem oz519 {a0 a1 a2 : Int} (h0 : a0 = a1 + a2) (h1 : a2 = (-1)) : (a0 + 1) < (a1 + 1) := by omega
theorem oz520 {a0 a1 : Int} (h0 : a0 ≤ a1) (h1 : a0 = 0) : (1 : Int) ≤ (a1 + 1) := by omega
theorem oz521 {a0 : Int} (h0 : a0 = 9) : ((-1) : Int) ≤ a0 := by omega
theorem oz522 {a0 a1 a2 : Int} (h0 : a0 ≤ a1) (h1 : a2 ≤ 8) (h2 : a1 < a2) (h3 : a0 = 0) : ((0 : Int) ≤ a1) ∧ (a1 ≤ 7) := by omega
theorem oz523 {a0 a1 : Int} (h0 : a0 < a1) (h1 : a1 = a0) (h2 : a0 = 1) : False := by omega
theorem oz524 {a0 a1 a2 : Int} (h0 : a0 < a1) (h1 : a1 = a2) (h2 : a0 = 1) (h3 : a2 = 0) : False := by omega
theorem oz525 {a0 a1 : Int} (h0 : a0 = a1) (h1 : a0 ≠ a1) (h2 : a1 ≤ a0) (h3 : a1 = 0) : False := by omega
theorem oz526 {a0 : Int} (h0 : (1 : Int) ≤ a0) : (1 : Int) ≤ a0 := by omega
theorem oz527 {a0 : Int} (h0 : a0 ≤ 5) : a0 ≤ 5 := by omega
theorem oz528 {a0 a1 : Int} (h0 : a0 < a1) (h1 : a1 = 6) : a0 ≤ 5 := by omega
theorem oz529 {a0 a1 a2 : Int} (h0 : a0 < a1) (h1 : a1 = 6) (h2 : a2 = 1) : a0 + a2 ≤ 2147483647 := by omega
theorem oz530 {a0 a1 a2 : Int} (h0 : a0 = a1 + a2) (h1 : a2 = 1) : (6 - a0) < (6 - a1) := by omega
theorem oz531 {a0 a1 : Int} (h0 : a0 < a1) (h1 : a1 = 6) : (1 : Int) ≤ (6 - a0) := by omega
theorem oz532 {a0 a1 : Int} (h0 : a0 < a1) (h1 : a1 = 6) : a0 ≤ 8 := by omega
theorem oz533 {a0 a1 a2 : Int} (h0 : a0 = a1) (h1 : a0 = a2) (h2 : a1 = 0) (h3 : a2 = 1) : False := by omega
theorem oz534 {a0 a1 a2 : Int} (h0 : a0 = a1) (h1 : a2 < a0) (h2 : a1 = 0) (h3 : a2 = 1) : False := by omega
theorem oz535 {a0 a1 a2 : Int} (h0 : a0 ≤ a1) (h1 : a2 = (a1 / 100)) (h2 : a0 = 0) : (0 : Int) ≤ a2 := by omega
theorem oz536 {a0 a1 : Int} (h0 : a0 = a1) (h1 : a0 ≠ a1) (h2 : a1 = (-1)) : False := by omega
theorem oz537 {a0 a1 a2 a3 : Int} (h0 : a0 < a1) (h1 : a1 ≤ a2) (h2 : a2 = 30) (h3 : a3 = 1) : a0 + a3 ≤ 2147483647 := by omega
theorem oz538 {a0 a1 a2 : Int} (h0 : a0 < a1) (h1 : a1 ≤ a2) (h2 : a2 = 30) : (1 : Int) ≤ (31 - a0) := by omega
theorem oz539 {a0 a1 a2 : Int} (h0 : a0 < a1) (h1 : a2 = a1) (h2 : a0 = 0) : a2 ≠ 0 := by omega
theorem oz540 {a0 a1 a2 : Int} (h0 : a0 < a1) (h1 : a2 = a1) (h2 : a0 = 0) : (1 : Int) ≤ a2 := by omega
theorem oz541 {a0 a1 a2 a3 : Int} (h0 : a0 < a1) (h1 : a1 = (a2 % 100)) (h2 : a3 = 1) : a0 + a3 ≤ 2147483647 := by omega
theorem oz542 {a0 a1 a2 : Int} (h0 : a0 = a1 + a2) (h1 : a2 = 1) : (100 - a0) < (100 - a1) := by omega
theorem oz543 {a0 a1 a2 : Int} (h0 : a0 < a1) (h1 : a1 = (a2 % 100)) : (1 : Int) ≤ (100 - a0) := by omega
theorem oz544 {a0 a1 a2 a3 : Int} (h0 : a0 < a1) (h1 : a2 = a1) (h2 : a3 = a2) (h3 : a0 = 0) : a3 ≠ 0 := by omega
theorem oz545 {a0 a1 a2 a3 : Int} (h0 : a0 < a1) (h1 : a2 = a1) (h2 : a3 = a2) (h3 : a0 = 0) : (1 : Int) ≤ a3 := by omega
theorem oz546 {a0 a1 a2 a3 a4 : Int} (h0 : a0 ≤ a1) (h1 : a0 = a2) (h2 : a2 = a3) (h3 : (0 : Int) ≤ a4) (h4 : a4 < a3) (h5 : a1 = 0) : False := by omega
theorem oz547 {a0 : Int} (h0 : a0 = 0) : a0 < 5 := by omega
theorem oz548 {a0 : Int} (h0 : a0 = 1) : a0 < 5 := by omega
theorem oz549 {a0 : Int} (h0 : a0 = 2) : a0 < 5 := by omega
theorem oz550 {a0 : Int} (h0 : a0 = 3) : a0 < 5 := by omega
theorem oz551 {a0 a1 : Int} (h0 : a0 ≤ a1) : (-2147483648 : Int) ≤ a1 - a0 := by omega
theorem oz552 {a0 a1 a2 : Int} (h0 : a0 ≤ 2147483647) (h1 : a1 ≤ a2) (h2 : a1 = 1) : a0 - a2 ≤ 2147483647 := by omega
theorem oz553 {a0 a1 a2 : Int} (h0 : a0 ≤ 8) (h1 : a1 < a0) : a1 = 18 → (0 : Int) ≤ a2 ∧ a2 ≤ 5 := by omega
theorem oz554 {a0 a1 a2 : Int} (h0 : a0 ≤ 8) (h1 : a1 < a0) : 19 ≤ a1 → a1 ≤ 24 → (0 : Int) ≤ a2 ∧ a2 ≤ 7 := by omega
theorem oz555 {a0 : Int} (h0 : a0 = 4) : a0 < 5 := by omega
theorem oz556 {a0 a1 : Int} (h0 : a0 ≠ a1) : a0 ≠ a1 := by omega
theorem oz557 {a0 a1 : Int} (h0 : a0 ≤ a1) (h1 : a1 = 4) : a0 < 5 := by omega
theorem oz558 {a0 : Int} (h0 : a0 = 1) : a0 ≤ 1 := by omega
theorem oz559 {a0 : Int} (h0 : a0 ≤ 8) : a0 ≤ 8 := by omega
def w167_116 : kW := ([], [118], [], [])
def w167_116_L24 : kW := ([], [118], [], [])
set_option maxRecDepth 100000 in
theorem kc167_116 {i : Nat → Int32} {a : Nat → List Int32} {q : Nat → List Int64} {r : Nat → Nat} (hI : kI i a q) (hr : kr r)  : km 1 167 [.ref 116] (ks i a q r) (kVN w167_116 i a q r (fun i1 a1 q1 r1 => True)) := by
  have hG := kG_self w167_116 hI hr
  refine km_ofN (q := (mi_h167, mi_c167)) rfl (by decide) (Nat.le_of_ble_eq_true rfl) ?_
  intro P hP
  refine ft_go mi_k167 7 14 [(0, .ref 116)] [.int 8, .ref 118, .int 99, .int 8, .ref 118] i a q r (by rfl) ?_
  refine ko_iald3 mi_k167.1 (n := 31) (c := 31) (ax := (0, 0, 0, 0, 0)) (mi_k167.2 _ _ (by rfl)) (by rfl) (ksG118 _ _ _ _) (hG.I.2.1 118) rfl (oz85 kn8) (oz86 kn8) ?_
  have b1 : ((-2147483648 : Int) ≤ ((a 118).getD (8 : Int32).toNatClampNeg 0).toInt) ∧ (((a 118).getD (8 : Int32).toNatClampNeg 0).toInt ≤ 2147483647) := kd_bd ((a 118).getD (8 : Int32).toNatClampNeg 0)
  refine ft_go mi_k167 2 17 [(0, .ref 116)] [.int (((a 118).getD (8 : Int32).toNatClampNeg 0) + 1), .int 99, .int 8, .ref 118] i a q r (by rfl) ?_
  have m3 : (((bif decide ((((a 118).getD (8 : Int32).toNatClampNeg 0) + 1) < 99) then (((a 118).getD (8 : Int32).toNatClampNeg 0) + 1) else 99).toInt ≤ (99 : Int32).toInt) ∧ ((bif decide ((((a 118).getD (8 : Int32).toNatClampNeg 0) + 1) < 99) then (((a 118).getD (8 : Int32).toNatClampNeg 0) + 1) else 99).toInt ≤ (((a 118).getD (8 : Int32).toNatClampNeg 0) + 1).toInt)) ∧ ((bif decide ((((a 118).getD (8 : Int32).toNatClampNeg 0) + 1) < 99) then (((a 118).getD (8 : Int32).toNatClampNeg 0) + 1) else 99).toInt = (99 : Int32).toInt ∨ (bif decide ((((a 118).getD (8 : Int32).toNatClampNeg 0) + 1) < 99) then (((a 118).getD (8 : Int32).toNatClampNeg 0) + 1) else 99).toInt = (((a 118).getD (8 : Int32).toNatClampNeg 0) + 1).toInt) := kd_min
  refine ft_go mi_k167 1 20 [(0, .ref 116)] [.int (bif decide ((((a 118).getD (8 : Int32).toNatClampNeg 0) + 1) < 99) then (((a 118).getD (8 : Int32).toNatClampNeg 0) + 1) else 99), .int 8, .ref 118] i a q r (by rfl) ?_
  generalize (bif decide ((((a 118).getD (8 : Int32).toNatClampNeg 0) + 1) < 99) then (((a 118).getD (8 : Int32).toNatClampNeg 0) + 1) else 99) = m2 at m3 ⊢
  refine ko_iast3 mi_k167.1 (n := 31) (c := 31) (ax := (0, 0, 0, 0, 0)) (mi_k167.2 _ _ (by rfl)) (by rfl) (ksG118 _ _ _ _) (ksA118 _ _ _ _) (hG.I.2.1 118) rfl (oz85 kn8) (oz86 kn8) ?_
  intro a4 ea4 fa4
  have hJ4 := kG_a3 hG 118 rfl ea4 fa4 (kE_nset (p := 118) (by decide) (oz85 kn8) (oz98 kn8) (oz99 kn8))
  refine ft_go mi_k167 2 24 [(1, .int 9), (0, .ref 116)] [] i a4 q r (by rfl) ?_
  have lp5 : ∀ (nz : Nat) (i5 : Nat → Int32) (a5 : Nat → List Int32) (q5 : Nat → List Int64) (r5 : Nat → Nat) (l1_5 : Int32), kG w167_116_L24 i a4 q r i5 a5 q5 r5 → (9 : Int) ≤ l1_5.toInt → ((18 - l1_5.toInt)).toNat < nz → ko 1 (mi_h167, mi_c167) P (24, [(1, .int l1_5), (0, .ref 116)], [], (0, 0), ks i5 a5 q5 r5) := by
    intro nz
    induction nz with
    | zero =>
      intro _ _ _ _ _ _ _ hm
      exact absurd hm (Nat.not_lt_zero _)
    | succ nz ih5 =>
      intro i5 a5 q5 r5 l1_5 hL5 p5_0 hm5
      refine ft_go mi_k167 2 27 [(1, .int l1_5), (0, .ref 116)] [.int 18, .int l1_5] i5 a5 q5 r5 (by rfl) ?_
      refine ft_if mi_k167 (decide (18 ≤ l1_5)) 43 30 [(1, .int l1_5), (0, .ref 116)] [] (by rfl) (fun c => ?_) (fun c => ?_)
      ·
        have c6 : (18 : Int32).toInt ≤ l1_5.toInt := kd_le c; clear c
        have hG7 := kG_call hJ4 hL5 (by decide +kernel)
        exact ft_ret mi_k167 (by rfl) (hP  _ _ _ _ hG7 trivial)
      ·
        have c8 : l1_5.toInt < (18 : Int32).toInt := kd_leF c; clear c
        refine ft_go mi_k167 4 36 [(1, .int l1_5), (0, .ref 116)] [.int 0, .int l1_5, .ref 118] i5 a5 q5 r5 (by rfl) ?_
        refine ko_iast3 mi_k167.1 (n := 31) (c := 31) (ax := (0, 0, 0, 0, 0)) (mi_k167.2 _ _ (by rfl)) (by rfl) (ksG118 _ _ _ _) (ksA118 _ _ _ _) (hL5.I.2.1 118) rfl (oz392 p5_0) (oz393 c8 kn18) ?_
        intro a9 ea9 fa9
        have hJ9 := kG_a3 hL5 118 rfl ea9 fa9 (kE_nset (p := 118) (by decide) (oz392 p5_0) (oz394 c8 kn18 kn0) (oz395 c8 kn18 kn0))
        have s10 : (l1_5 + 1).toInt = l1_5.toInt + (1 : Int32).toInt := kd_add (oz396 p5_0 kn1) (oz397 c8 kn18 kn1)
        refine ft_go mi_k167 2 24 [(1, .int (l1_5 + 1)), (0, .ref 116)] [] i5 a9 q5 r5 (by rfl) ?_
        exact ih5 _ _ _ _ _ hJ9 (oz398 p5_0 s10 kn1) (kj_meas (oz399 s10 kn1) (oz400 c8 kn18) hm5)
  exact lp5 _ _ _ _ _ _ (kG_self _ hJ4.I hJ4.R) (oz401 kn9) (Nat.lt_succ_self _)
def w178_116 : kW := ([7469], [142], [], [])
def w178_116_L5 : kW := ([], [142], [], [])
set_option maxRecDepth 100000 in
theorem kc178_116 {i : Nat → Int32} {a : Nat → List Int32} {q : Nat → List Int64} {r : Nat → Nat} (hI : kI i a q) (hr : kr r) (x1 : Int32) (x2 : Int32) (hp0 : ((0 : Int) ≤ x1.toInt) ∧ (x1.toInt ≤ (i 7469).toInt)) (hp1 : (i 7469).toInt ≤ 20) (hp2 : ((0 : Int) ≤ x2.toInt) ∧ (x2.toInt ≤ 7)) : km 1 178 [.ref 116, .int x1, .int x2] (ks i a q r) (kVN w178_116 i a q r (fun i1 a1 q1 r1 => (i1 7469).toInt = ((i 7469).toInt + 1))) := by
  have hG := kG_self w178_116 hI hr
  refine km_ofN (q := (mi_h178, mi_c178)) rfl (by decide) (Nat.le_of_ble_eq_true rfl) ?_
  intro P hP
  refine ft_go mi_k178 3 5 [(3, .int (i 7469)), (0, .ref 116), (1, .int x1), (2, .int x2)] [] i a q r (by rfl) ?_
  have lp1 : ∀ (nz : Nat) (i1 : Nat → Int32) (a1 : Nat → List Int32) (q1 : Nat → List Int64) (r1 : Nat → Nat) (l3_1 : Int32), kG w178_116_L5 i a q r i1 a1 q1 r1 → l3_1.toInt ≤ (i1 7469).toInt → x1.toInt ≤ l3_1.toInt → ((l3_1.toInt - x1.toInt)).toNat < nz → ko 1 (mi_h178, mi_c178) P (5, [(3, .int l3_1), (0, .ref 116), (1, .int x1), (2, .int x2)], [], (0, 0), ks i1 a1 q1 r1) := by
    intro nz
    induction nz with
    | zero =>
      intro _ _ _ _ _ _ _ _ hm
      exact absurd hm (Nat.not_lt_zero _)
    | succ nz ih1 =>
      intro i1 a1 q1 r1 l3_1 hL1 p1_0 p1_1 hm1
      have fi1_7469 : ((0 : Int) ≤ (i1 7469).toInt) ∧ ((i1 7469).toInt ≤ 21) := hL1.I.1 7469
      have efi1_7469 : (i1 7469).toInt = (i 7469).toInt := hL1.ti 7469 rfl
      refine ft_go mi_k178 2 7 [(3, .int l3_1), (0, .ref 116), (1, .int x1), (2, .int x2)] [.int x1, .int l3_1] i1 a1 q1 r1 (by rfl) ?_
      refine ft_if mi_k178 (decide (l3_1 ≤ x1)) 30 10 [(3, .int l3_1), (0, .ref 116), (1, .int x1), (2, .int x2)] [] (by rfl) (fun c => ?_) (fun c => ?_)
      ·
        have c2 : l3_1.toInt ≤ x1.toInt := kd_le c; clear c
        have hG3 := kG_call hG hL1 (by decide +kernel)
        refine ft_go mi_k178 4 36 [(3, .int l3_1), (0, .ref 116), (1, .int x1), (2, .int x2)] [.int x2, .int x1, .ref 142] i1 a1 q1 r1 (by rfl) ?_
        refine ko_iast3 mi_k178.1 (n := 21) (c := 21) (ax := (0, 0, 0, 0, 0)) (mi_k178.2 _ _ (by rfl)) (by rfl) (ksG142 _ _ _ _) (ksA142 _ _ _ _) (hG3.I.2.1 142) rfl (oz3 hp0.1) (oz406 hp0.2 hp1) ?_
        intro a4 ea4 fa4
        have hJ4 := kG_a3 hG3 142 rfl ea4 fa4 ⟨(oz3 hp2.1), (oz407 hp2.2)⟩
        have s5 : ((i1 7469) + 1).toInt = (i1 7469).toInt + (1 : Int32).toInt := kd_add (oz12 fi1_7469.1 kn1) (oz215 fi1_7469.2 kn1)
        have hJ6 := kG_i hJ4 7469 rfl (v := ((i1 7469) + 1)) ⟨(oz14 fi1_7469.1 s5 kn1), (oz408 efi1_7469 hp1 s5 kn1)⟩
        refine ft_go mi_k178 6 47 [(3, .int l3_1), (0, .ref 116), (1, .int x1), (2, .int x2)] [] (ku i1 7469 ((i1 7469) + 1)) a4 q1 r1 (by rfl) ?_
        exact ft_ret mi_k178 (by rfl) (hP  _ _ _ _ hJ6 (oz409 efi1_7469 s5 kn1))
      ·
        have c7 : x1.toInt < l3_1.toInt := kd_leF c; clear c
        have s8 : (l3_1 - 1).toInt = l3_1.toInt - (1 : Int32).toInt := kd_sub (oz410 c7 hp0.1 kn1) (oz411 efi1_7469 hp1 p1_0 kn1)
        refine ft_go mi_k178 8 22 [(3, .int l3_1), (0, .ref 116), (1, .int x1), (2, .int x2)] [.int (l3_1 - 1), .ref 142, .int l3_1, .ref 142] i1 a1 q1 r1 (by rfl) ?_
        refine ko_iald3 mi_k178.1 (n := 21) (c := 21) (ax := (0, 0, 0, 0, 0)) (mi_k178.2 _ _ (by rfl)) (by rfl) (ksG142 _ _ _ _) (hL1.I.2.1 142) rfl (oz412 c7 hp0.1 s8 kn1) (oz413 efi1_7469 hp1 p1_0 s8 kn1) ?_
        have r9 : ((0 : Int) ≤ ((a1 142).getD (l3_1 - 1).toNatClampNeg 0).toInt) ∧ (((a1 142).getD (l3_1 - 1).toNatClampNeg 0).toInt ≤ 7) := hL1.I.2.2.1 142 ((l3_1 - 1).toNatClampNeg)
        refine ko_iast3 mi_k178.1 (n := 21) (c := 21) (ax := (0, 0, 0, 0, 0)) (mi_k178.2 _ _ (by rfl)) (by rfl) (ksG142 _ _ _ _) (ksA142 _ _ _ _) (hL1.I.2.1 142) rfl (oz414 c7 hp0.1) (oz415 efi1_7469 hp1 p1_0) ?_
        intro a10 ea10 fa10
        have hJ10 := kG_a3 hL1 142 rfl ea10 fa10 ⟨(oz3 r9.1), (oz407 r9.2)⟩
        have s11 : (l3_1 + (-1)).toInt = l3_1.toInt + ((-1) : Int32).toInt := kd_add (oz416 c7 hp0.1 knm1) (oz417 efi1_7469 hp1 p1_0 knm1)
        refine ft_go mi_k178 2 5 [(3, .int (l3_1 + (-1))), (0, .ref 116), (1, .int x1), (2, .int x2)] [] i1 a10 q1 r1 (by rfl) ?_
        exact ih1 _ _ _ _ _ hJ10 (oz418 p1_0 s11 knm1) (oz419 c7 s11 knm1) (kj_meas (oz420 s11 knm1) (oz45 c7) hm1)
  exact lp1 _ _ _ _ _ _ (kG_self _ hG.I hG.R) oz122 (oz173 hp0.2) (Nat.lt_succ_self _)
def w179_116 : kW := ([7469], [142], [], [])
def w179_116_L12 : kW := ([], [142], [], [])
set_option maxRecDepth 100000 in
theorem kc179_116 {i : Nat → Int32} {a : Nat → List Int32} {q : Nat → List Int64} {r : Nat → Nat} (hI : kI i a q) (hr : kr r) (x1 : Int32) (hp0 : (0 : Int) ≤ x1.toInt) (hp1 : (1 : Int) ≤ (i 7469).toInt) : km 1 179 [.ref 116, .int x1] (ks i a q r) (kVN w179_116 i a q r (fun i1 a1 q1 r1 => (i1 7469).toInt = ((i 7469).toInt - 1))) := by
  have hG := kG_self w179_116 hI hr
  refine km_ofN (q := (mi_h179, mi_c179)) rfl (by decide) (Nat.le_of_ble_eq_true rfl) ?_
  intro P hP
  have fi_7469 : ((0 : Int) ≤ (i 7469).toInt) ∧ ((i 7469).toInt ≤ 21) := hG.I.1 7469
  have s1 : ((i 7469) - 1).toInt = (i 7469).toInt - (1 : Int32).toInt := kd_sub (oz341 hp1 kn1) (oz424 fi_7469.2 kn1)
  have hJ2 := kG_i hG 7469 rfl (v := ((i 7469) - 1)) ⟨(oz425 hp1 s1 kn1), (oz426 fi_7469.2 s1 kn1)⟩
  refine ft_go mi_k179 8 12 [(2, .int x1), (0, .ref 116), (1, .int x1)] [] (ku i 7469 ((i 7469) - 1)) a q r (by rfl) ?_
  have lp3 : ∀ (nz : Nat) (i3 : Nat → Int32) (a3 : Nat → List Int32) (q3 : Nat → List Int64) (r3 : Nat → Nat) (l2_3 : Int32), kG w179_116_L12 (ku i 7469 ((i 7469) - 1)) a q r i3 a3 q3 r3 → (0 : Int) ≤ l2_3.toInt → (((i3 7469).toInt - l2_3.toInt)).toNat < nz → ko 1 (mi_h179, mi_c179) P (12, [(2, .int l2_3), (0, .ref 116), (1, .int x1)], [], (0, 0), ks i3 a3 q3 r3) := by
    intro nz
    induction nz with
    | zero =>
      intro _ _ _ _ _ _ _ hm
      exact absurd hm (Nat.not_lt_zero _)
    | succ nz ih3 =>
      intro i3 a3 q3 r3 l2_3 hL3 p3_0 hm3
      have fi3_7469 : ((0 : Int) ≤ (i3 7469).toInt) ∧ ((i3 7469).toInt ≤ 21) := hL3.I.1 7469
      have efi3_7469 : (i3 7469).toInt = ((i 7469) - 1).toInt := hL3.ti 7469 rfl
      refine ft_go mi_k179 3 17 [(2, .int l2_3), (0, .ref 116), (1, .int x1)] [.int (i3 7469), .int l2_3] i3 a3 q3 r3 (by rfl) ?_
      refine ft_if mi_k179 (decide ((i3 7469) ≤ l2_3)) 40 20 [(2, .int l2_3), (0, .ref 116), (1, .int x1)] [] (by rfl) (fun c => ?_) (fun c => ?_)
      ·
        have c4 : (i3 7469).toInt ≤ l2_3.toInt := kd_le c; clear c
        have hG5 := kG_call hJ2 hL3 (by decide +kernel)
        exact ft_ret mi_k179 (by rfl) (hP  _ _ _ _ hG5 (oz427 efi3_7469 s1 kn1))
      ·
        have c6 : l2_3.toInt < (i3 7469).toInt := kd_leF c; clear c
        have s7 : (l2_3 + 1).toInt = l2_3.toInt + (1 : Int32).toInt := kd_add (oz12 p3_0 kn1) (oz381 c6 fi3_7469.2 kn1)
        refine ft_go mi_k179 8 32 [(2, .int l2_3), (0, .ref 116), (1, .int x1)] [.int (l2_3 + 1), .ref 142, .int l2_3, .ref 142] i3 a3 q3 r3 (by rfl) ?_
        refine ko_iald3 mi_k179.1 (n := 21) (c := 21) (ax := (0, 0, 0, 0, 0)) (mi_k179.2 _ _ (by rfl)) (by rfl) (ksG142 _ _ _ _) (hL3.I.2.1 142) rfl (oz14 p3_0 s7 kn1) (oz428 c6 efi3_7469 fi_7469.2 s1 s7 kn1) ?_
        have r8 : ((0 : Int) ≤ ((a3 142).getD (l2_3 + 1).toNatClampNeg 0).toInt) ∧ (((a3 142).getD (l2_3 + 1).toNatClampNeg 0).toInt ≤ 7) := hL3.I.2.2.1 142 ((l2_3 + 1).toNatClampNeg)
        refine ko_iast3 mi_k179.1 (n := 21) (c := 21) (ax := (0, 0, 0, 0, 0)) (mi_k179.2 _ _ (by rfl)) (by rfl) (ksG142 _ _ _ _) (ksA142 _ _ _ _) (hL3.I.2.1 142) rfl (oz3 p3_0) (oz241 c6 fi3_7469.2) ?_
        intro a9 ea9 fa9
        have hJ9 := kG_a3 hL3 142 rfl ea9 fa9 ⟨(oz3 r8.1), (oz407 r8.2)⟩
        refine ft_go mi_k179 2 12 [(2, .int (l2_3 + 1)), (0, .ref 116), (1, .int x1)] [] i3 a9 q3 r3 (by rfl) ?_
        exact ih3 _ _ _ _ _ hJ9 (oz14 p3_0 s7 kn1) (kj_meas (oz44 s7 kn1) (oz45 c6) hm3)
  exact lp3 _ _ _ _ _ _ (kG_self _ hJ2.I hJ2.R) (oz3 hp0) (Nat.lt_succ_self _)
def w182_116 : kW := ([], [142], [], [])
set_option maxRecDepth 100000 in
theorem kc182_116 {i : Nat → Int32} {a : Nat → List Int32} {q : Nat → List Int64} {r : Nat → Nat} (hI : kI i a q) (hr : kr r) (x1 : Int32) (hp0 : ((0 : Int) ≤ x1.toInt) ∧ (x1.toInt ≤ 19)) : km 1 182 [.ref 116, .int x1] (ks i a q r) (kVN w182_116 i a q r (fun i1 a1 q1 r1 => True)) := by
  have hG := kG_self w182_116 hI hr
  refine km_ofN (q := (mi_h182, mi_c182)) rfl (by decide) (Nat.le_of_ble_eq_true rfl) ?_
  intro P hP
  refine ft_go mi_k182 3 5 [(0, .ref 116), (1, .int x1)] [.int x1, .ref 142] i a q r (by rfl) ?_
  refine ko_iald3 mi_k182.1 (n := 21) (c := 21) (ax := (0, 0, 0, 0, 0)) (mi_k182.2 _ _ (by rfl)) (by rfl) (ksG142 _ _ _ _) (hG.I.2.1 142) rfl (oz3 hp0.1) (oz449 hp0.2) ?_
  have r1 : ((0 : Int) ≤ ((a 142).getD x1.toNatClampNeg 0).toInt) ∧ (((a 142).getD x1.toNatClampNeg 0).toInt ≤ 7) := hG.I.2.2.1 142 (x1.toNatClampNeg)
  have s2 : (x1 + 1).toInt = x1.toInt + (1 : Int32).toInt := kd_add (oz12 hp0.1 kn1) (oz450 hp0.2 kn1)
  refine ft_go mi_k182 9 19 [(2, .int ((a 142).getD x1.toNatClampNeg 0)), (0, .ref 116), (1, .int x1)] [.int (x1 + 1), .ref 142, .int x1, .ref 142] i a q r (by rfl) ?_
  refine ko_iald3 mi_k182.1 (n := 21) (c := 21) (ax := (0, 0, 0, 0, 0)) (mi_k182.2 _ _ (by rfl)) (by rfl) (ksG142 _ _ _ _) (hG.I.2.1 142) rfl (oz14 hp0.1 s2 kn1) (oz451 hp0.2 s2 kn1) ?_
  have r3 : ((0 : Int) ≤ ((a 142).getD (x1 + 1).toNatClampNeg 0).toInt) ∧ (((a 142).getD (x1 + 1).toNatClampNeg 0).toInt ≤ 7) := hG.I.2.2.1 142 ((x1 + 1).toNatClampNeg)
  refine ko_iast3 mi_k182.1 (n := 21) (c := 21) (ax := (0, 0, 0, 0, 0)) (mi_k182.2 _ _ (by rfl)) (by rfl) (ksG142 _ _ _ _) (ksA142 _ _ _ _) (hG.I.2.1 142) rfl (oz3 hp0.1) (oz449 hp0.2) ?_
  intro a4 ea4 fa4
  have hJ4 := kG_a3 hG 142 rfl ea4 fa4 ⟨(oz3 r3.1), (oz407 r3.2)⟩
  refine ft_go mi_k182 6 29 [(2, .int ((a 142).getD x1.toNatClampNeg 0)), (0, .ref 116), (1, .int x1)] [.int ((a 142).getD x1.toNatClampNeg 0), .int (x1 + 1), .ref 142] i a4 q r (by rfl) ?_
  refine ko_iast3 mi_k182.1 (n := 21) (c := 21) (ax := (0, 0, 0, 0, 0)) (mi_k182.2 _ _ (by rfl)) (by rfl) (ksG142 _ _ _ _) (ksA142 _ _ _ _) (hJ4.I.2.1 142) rfl (oz14 hp0.1 s2 kn1) (oz451 hp0.2 s2 kn1) ?_
  intro a5 ea5 fa5
  have hJ5 := kG_a3 hJ4 142 rfl ea5 fa5 ⟨(oz3 r1.1), (oz407 r1.2)⟩
  exact ft_ret mi_k182 (by rfl) (hP  _ _ _ _ hJ5 trivial)
set_option maxRecDepth 100000 in
theorem kc186_116 {i : Nat → Int32} {a : Nat → List Int32} {q : Nat → List Int64} {r : Nat → Nat} (hI : kI i a q) (hr : kr r) (x1 : Int32) : km 5 186 [.ref 116, .int x1] (ks i a q r) (kPI (ks i a q r) (fun v => (v = 1 ∧ (((0 : Int) ≤ x1.toInt) ∧ (((x1.toInt / 10) < (i 7424).toInt) ∧ ((x1.toInt % 10) < (i 7424).toInt)) ∧ ((x1.toInt / 10) ≠ (x1.toInt % 10)))) ∨ (v = 0 ∧ (¬ (((0 : Int) ≤ x1.toInt) ∧ (((x1.toInt / 10) < (i 7424).toInt) ∧ ((x1.toInt % 10) < (i 7424).toInt)) ∧ ((x1.toInt / 10) ≠ (x1.toInt % 10))))))) := by
  have hG := kG_self kW0 hI hr
  refine km_ofPI (q := (mi_h186, mi_c186)) rfl (by decide) (Nat.le_of_ble_eq_true rfl) ?_
  intro P hP
  refine ft_go mi_k186 1 1 [(0, .ref 116), (1, .int x1)] [.int x1] i a q r (by rfl) ?_
  refine ft_if mi_k186 (decide (x1 < 0)) 41 4 [(0, .ref 116), (1, .int x1)] [] (by rfl) (fun c => ?_) (fun c => ?_)
  ·
    have c1 : x1.toInt < (0 : Int32).toInt := kd_lt c; clear c
    refine ft_go mi_k186 1 42 [(0, .ref 116), (1, .int x1)] [.int 0] i a q r (by rfl) ?_
    exact ft_ret mi_k186 (by rfl) (hP 0 (Or.inr ⟨rfl, (oz458 c1 kn0)⟩))
  ·
    have c2 : (0 : Int32).toInt ≤ x1.toInt := kd_ltF c; clear c
    have s3 : (x1 / 10).toInt = (x1.toInt / 10) := kd_div 10 kn10 (by decide) (oz389 c2 kn0)
    refine ft_go mi_k186 4 9 [(0, .ref 116), (1, .int x1)] [.int (x1 / 10), .ref 116] i a q r (by rfl) ?_
    refine ko_callPI mi_k186.1 (pc := 9) (ls := [(0, .ref 116), (1, .int x1)]) (st := [.int (x1 / 10), .ref 116]) (h := ks i a q r) (i := (.invokevirtual 137, 3, 132, 0, 9, 0, 387)) (mi_k186.2 _ _ (by rfl)) (ft_invS mi_pq132 (by rfl)) (cy := mi_c132) mi_pq132 rfl (kc132_116 hG.I hG.R (x1 / 10)) (by decide) ?_
    intro vg4 hg4
    rcases hg4 with ⟨eg4, hg4⟩ | ⟨eg4, hg4⟩
    ·
      subst eg4
      have z5 : ((0 : Int) ≤ (x1 / 10).toInt) ∧ ((x1 / 10).toInt < (i 7424).toInt) := hg4
      have s6 : (x1 - x1 / 10 * 10).toInt = (x1.toInt % 10) := kd_rem 10 kn10 (by decide) (oz389 c2 kn0)
      refine ft_go mi_k186 5 20 [(0, .ref 116), (1, .int x1)] [.int (x1 - x1 / 10 * 10), .ref 116] i a q r (by rfl) ?_
      refine ko_callPI mi_k186.1 (pc := 20) (ls := [(0, .ref 116), (1, .int x1)]) (st := [.int (x1 - x1 / 10 * 10), .ref 116]) (h := ks i a q r) (i := (.invokevirtual 137, 3, 132, 0, 9, 0, 387)) (mi_k186.2 _ _ (by rfl)) (ft_invS mi_pq132 (by rfl)) (cy := mi_c132) mi_pq132 rfl (kc132_116 hG.I hG.R (x1 - x1 / 10 * 10)) (by decide) ?_
      intro vg7 hg7
      rcases hg7 with ⟨eg7, hg7⟩ | ⟨eg7, hg7⟩
      ·
        subst eg7
        have z8 : ((0 : Int) ≤ (x1 - x1 / 10 * 10).toInt) ∧ ((x1 - x1 / 10 * 10).toInt < (i 7424).toInt) := hg7
        refine ft_go mi_k186 7 34 [(0, .ref 116), (1, .int x1)] [.int (x1 - x1 / 10 * 10), .int (x1 / 10)] i a q r (by rfl) ?_
        refine ft_if mi_k186 ((x1 / 10) == (x1 - x1 / 10 * 10)) 41 37 [(0, .ref 116), (1, .int x1)] [] (by rfl) (fun c => ?_) (fun c => ?_)
        ·
          have c9 : (x1 / 10).toInt = (x1 - x1 / 10 * 10).toInt := kd_eq c; clear c
          refine ft_go mi_k186 1 42 [(0, .ref 116), (1, .int x1)] [.int 0] i a q r (by rfl) ?_
          exact ft_ret mi_k186 (by rfl) (hP 0 (Or.inr ⟨rfl, (oz459 c9 s3 s6)⟩))
        ·
          have c10 : (x1 / 10).toInt ≠ (x1 - x1 / 10 * 10).toInt := kd_eqF c; clear c
          refine ft_go mi_k186 2 42 [(0, .ref 116), (1, .int x1)] [.int 1] i a q r (by rfl) ?_
          exact ft_ret mi_k186 (by rfl) (hP 1 (Or.inl ⟨rfl, (oz460 c10 c2 s3 s6 z5.2 z8.2 kn0)⟩))
      ·
        subst eg7
        have z11 : ¬ (((0 : Int) ≤ (x1 - x1 / 10 * 10).toInt) ∧ ((x1 - x1 / 10 * 10).toInt < (i 7424).toInt)) := hg7
        refine ft_go mi_k186 2 42 [(0, .ref 116), (1, .int x1)] [.int 0] i a q r (by rfl) ?_
        exact ft_ret mi_k186 (by rfl) (hP 0 (Or.inr ⟨rfl, (oz461 s6 z11)⟩))
    ·
      subst eg4
      have z12 : ¬ (((0 : Int) ≤ (x1 / 10).toInt) ∧ ((x1 / 10).toInt < (i 7424).toInt)) := hg4
      refine ft_go mi_k186 2 42 [(0, .ref 116), (1, .int x1)] [.int 0] i a q r (by rfl) ?_
      exact ft_ret mi_k186 (by rfl) (hP 0 (Or.inr ⟨rfl, (oz462 c2 s3 z12 kn0)⟩))
def w188_116 : kW := ([], [148], [], [])
def w188_116_L2 : kW := ([], [148], [], [])
def w188_116_L37 : kW := ([], [148], [], [])
def w188_116_L45 : kW := ([], [148], [], [])
set_option maxRecDepth 100000 in
theorem kc188_116 {i : Nat → Int32} {a : Nat → List Int32} {q : Nat → List Int64} {r : Nat → Nat} (hI : kI i a q) (hr : kr r)  : km 1 188 [.ref 116] (ks i a q r) (kVI w188_116 i a q r (fun v i1 a1 q1 r1 => True)) := by
  have hG := kG_self w188_116 hI hr
  refine km_ofI (q := (mi_h188, mi_c188)) rfl (by decide) (Nat.le_of_ble_eq_true rfl) ?_
  intro P hP
  refine ft_go mi_k188 2 2 [(1, .int 0), (0, .ref 116)] [] i a q r (by rfl) ?_
  have lp1 : ∀ (nz : Nat) (i1 : Nat → Int32) (a1 : Nat → List Int32) (q1 : Nat → List Int64) (r1 : Nat → Nat) (l1_1 : Int32), kG w188_116_L2 i a q r i1 a1 q1 r1 → (0 : Int) ≤ l1_1.toInt → ((64 - l1_1.toInt)).toNat < nz → ko 1 (mi_h188, mi_c188) P (2, [(1, .int l1_1), (0, .ref 116)], [], (0, 0), ks i1 a1 q1 r1) := by
    intro nz
    induction nz with
    | zero =>
      intro _ _ _ _ _ _ _ hm
      exact absurd hm (Nat.not_lt_zero _)
    | succ nz ih1 =>
      intro i1 a1 q1 r1 l1_1 hL1 p1_0 hm1
      refine ft_go mi_k188 2 5 [(1, .int l1_1), (0, .ref 116)] [.int 64, .int l1_1] i1 a1 q1 r1 (by rfl) ?_
      refine ft_if mi_k188 (decide (64 ≤ l1_1)) 35 8 [(1, .int l1_1), (0, .ref 116)] [] (by rfl) (fun c => ?_) (fun c => ?_)
      ·
        have c2 : (64 : Int32).toInt ≤ l1_1.toInt := kd_le c; clear c
        have hG3 := kG_call hG hL1 (by decide +kernel)
        refine ft_go mi_k188 2 37 [(1, .int 0), (0, .ref 116)] [] i1 a1 q1 r1 (by rfl) ?_
        have lp4 : ∀ (nz : Nat) (i4 : Nat → Int32) (a4 : Nat → List Int32) (q4 : Nat → List Int64) (r4 : Nat → Nat) (l1_4 : Int32), kG w188_116_L37 i1 a1 q1 r1 i4 a4 q4 r4 → (0 : Int) ≤ l1_4.toInt → ((8 - l1_4.toInt)).toNat < nz → ko 1 (mi_h188, mi_c188) P (37, [(1, .int l1_4), (0, .ref 116)], [], (0, 0), ks i4 a4 q4 r4) := by
          intro nz
          induction nz with
          | zero =>
            intro _ _ _ _ _ _ _ hm
            exact absurd hm (Nat.not_lt_zero _)
          | succ nz ih4 =>
            intro i4 a4 q4 r4 l1_4 hL4 p4_0 hm4
            refine ft_go mi_k188 2 40 [(1, .int l1_4), (0, .ref 116)] [.int 8, .int l1_4] i4 a4 q4 r4 (by rfl) ?_
            refine ft_if mi_k188 (decide (8 ≤ l1_4)) 106 43 [(1, .int l1_4), (0, .ref 116)] [] (by rfl) (fun c => ?_) (fun c => ?_)
            ·
              have c5 : (8 : Int32).toInt ≤ l1_4.toInt := kd_le c; clear c
              have hG6 := kG_call hG3 hL4 (by decide +kernel)
              refine ft_go mi_k188 4 111 [(2, .int 0), (1, .int 99), (0, .ref 116)] [] i4 a4 q4 r4 (by rfl) ?_
              have lp7 : ∀ (nz : Nat) (l2_7 : Int32) (l1_7 : Int32), (0 : Int) ≤ l2_7.toInt → ((8 - l2_7.toInt)).toNat < nz → ko 1 (mi_h188, mi_c188) P (111, [(2, .int l2_7), (1, .int l1_7), (0, .ref 116)], [], (0, 0), ks i4 a4 q4 r4) := by
                intro nz
                induction nz with
                | zero =>
                  intro _ _ _ hm
                  exact absurd hm (Nat.not_lt_zero _)
                | succ nz ih7 =>
                  intro l2_7 l1_7 p7_0 hm7
                  refine ft_go mi_k188 2 114 [(2, .int l2_7), (1, .int l1_7), (0, .ref 116)] [.int 8, .int l2_7] i4 a4 q4 r4 (by rfl) ?_
                  refine ft_if mi_k188 (decide (8 ≤ l2_7)) 137 117 [(2, .int l2_7), (1, .int l1_7), (0, .ref 116)] [] (by rfl) (fun c => ?_) (fun c => ?_)
                  ·
                    have c8 : (8 : Int32).toInt ≤ l2_7.toInt := kd_le c; clear c
                    refine ft_go mi_k188 2 140 [(2, .int l2_7), (1, .int l1_7), (0, .ref 116)] [.int 99, .int l1_7] i4 a4 q4 r4 (by rfl) ?_
                    refine ft_if mi_k188 (l1_7 != 99) 148 143 [(2, .int l2_7), (1, .int l1_7), (0, .ref 116)] [] (by rfl) (fun c => ?_) (fun c => ?_)
                    ·
                      have c9 : l1_7.toInt ≠ (99 : Int32).toInt := kd_ne c; clear c
                      refine ft_go mi_k188 1 149 [(2, .int l2_7), (1, .int l1_7), (0, .ref 116)] [.int l1_7] i4 a4 q4 r4 (by rfl) ?_
                      exact ft_ret mi_k188 (by rfl) (hP l1_7 _ _ _ _ hG6 trivial)
                    ·
                      have c10 : l1_7.toInt = (99 : Int32).toInt := kd_neF c; clear c
                      refine ft_go mi_k188 2 149 [(2, .int l2_7), (1, .int l1_7), (0, .ref 116)] [.int (-2)] i4 a4 q4 r4 (by rfl) ?_
                      exact ft_ret mi_k188 (by rfl) (hP (-2) _ _ _ _ hG6 trivial)
                  ·
                    have c11 : l2_7.toInt < (8 : Int32).toInt := kd_leF c; clear c
                    have s12 : (9 * l2_7).toInt = 9 * l2_7.toInt := kd_cmul 9 kn9 (oz470 p7_0) (oz471 c11 kn8)
                    refine ft_go mi_k188 6 126 [(2, .int l2_7), (1, .int l1_7), (0, .ref 116)] [.int (9 * l2_7), .ref 148, .int l1_7] i4 a4 q4 r4 (by rfl) ?_
                    refine ko_iald3 mi_k188.1 (n := 64) (c := 64) (ax := (0, 0, 0, 0, 0)) (mi_k188.2 _ _ (by rfl)) (by rfl) (ksG148 _ _ _ _) (hG6.I.2.1 148) rfl (oz472 p7_0 s12) (oz473 c11 s12 kn8) ?_
                    have m14 : (((bif decide (((a4 148).getD (9 * l2_7).toNatClampNeg 0) < l1_7) then ((a4 148).getD (9 * l2_7).toNatClampNeg 0) else l1_7).toInt ≤ l1_7.toInt) ∧ ((bif decide (((a4 148).getD (9 * l2_7).toNatClampNeg 0) < l1_7) then ((a4 148).getD (9 * l2_7).toNatClampNeg 0) else l1_7).toInt ≤ ((a4 148).getD (9 * l2_7).toNatClampNeg 0).toInt)) ∧ ((bif decide (((a4 148).getD (9 * l2_7).toNatClampNeg 0) < l1_7) then ((a4 148).getD (9 * l2_7).toNatClampNeg 0) else l1_7).toInt = l1_7.toInt ∨ (bif decide (((a4 148).getD (9 * l2_7).toNatClampNeg 0) < l1_7) then ((a4 148).getD (9 * l2_7).toNatClampNeg 0) else l1_7).toInt = ((a4 148).getD (9 * l2_7).toNatClampNeg 0).toInt) := kd_min
                    refine ft_go mi_k188 1 130 [(2, .int l2_7), (1, .int l1_7), (0, .ref 116)] [.int (bif decide (((a4 148).getD (9 * l2_7).toNatClampNeg 0) < l1_7) then ((a4 148).getD (9 * l2_7).toNatClampNeg 0) else l1_7)] i4 a4 q4 r4 (by rfl) ?_
                    generalize (bif decide (((a4 148).getD (9 * l2_7).toNatClampNeg 0) < l1_7) then ((a4 148).getD (9 * l2_7).toNatClampNeg 0) else l1_7) = m13 at m14 ⊢
                    have s15 : (l2_7 + 1).toInt = l2_7.toInt + (1 : Int32).toInt := kd_add (oz12 p7_0 kn1) (oz474 c11 kn8 kn1)
                    refine ft_go mi_k188 3 111 [(2, .int (l2_7 + 1)), (1, .int m13), (0, .ref 116)] [] i4 a4 q4 r4 (by rfl) ?_
                    exact ih7 _ _ (oz14 p7_0 s15 kn1) (kj_meas (oz475 s15 kn1) (oz476 c11 kn8) hm7)
              exact lp7 _ _ _ (oz46 kn0) (Nat.lt_succ_self _)
            ·
              have c16 : l1_4.toInt < (8 : Int32).toInt := kd_leF c; clear c
              refine ft_go mi_k188 2 45 [(2, .int 0), (1, .int l1_4), (0, .ref 116)] [] i4 a4 q4 r4 (by rfl) ?_
              have lp17 : ∀ (nz : Nat) (i17 : Nat → Int32) (a17 : Nat → List Int32) (q17 : Nat → List Int64) (r17 : Nat → Nat) (l2_17 : Int32), kG w188_116_L45 i4 a4 q4 r4 i17 a17 q17 r17 → ((0 : Int) ≤ l1_4.toInt) ∧ (l1_4.toInt ≤ 7) → (0 : Int) ≤ l2_17.toInt → ((64 - l2_17.toInt)).toNat < nz → ko 1 (mi_h188, mi_c188) P (45, [(2, .int l2_17), (1, .int l1_4), (0, .ref 116)], [], (0, 0), ks i17 a17 q17 r17) := by
                intro nz
                induction nz with
                | zero =>
                  intro _ _ _ _ _ _ _ _ hm
                  exact absurd hm (Nat.not_lt_zero _)
                | succ nz ih17 =>
                  intro i17 a17 q17 r17 l2_17 hL17 p17_0 p17_1 hm17
                  refine ft_go mi_k188 2 48 [(2, .int l2_17), (1, .int l1_4), (0, .ref 116)] [.int 64, .int l2_17] i17 a17 q17 r17 (by rfl) ?_
                  refine ft_if mi_k188 (decide (64 ≤ l2_17)) 100 51 [(2, .int l2_17), (1, .int l1_4), (0, .ref 116)] [] (by rfl) (fun c => ?_) (fun c => ?_)
                  ·
                    have c18 : (64 : Int32).toInt ≤ l2_17.toInt := kd_le c; clear c
                    have hG19 := kG_call hL4 hL17 (by decide +kernel)
                    have s20 : (l1_4 + 1).toInt = l1_4.toInt + (1 : Int32).toInt := kd_add (oz12 p4_0 kn1) (oz474 c16 kn8 kn1)
                    refine ft_go mi_k188 2 37 [(1, .int (l1_4 + 1)), (2, .int l2_17), (0, .ref 116)] [] i17 a17 q17 r17 (by rfl) ?_
                    refine ko_perm [(1, .int (l1_4 + 1)), (0, .ref 116)] (List.forall_mem_cons.mpr ⟨(List.Mem.head _), (List.forall_mem_cons.mpr ⟨(List.Mem.tail _ (List.Mem.tail _ (List.Mem.head _))), (fun _ h => absurd h List.not_mem_nil)⟩)⟩) ?_
                    exact ih4 _ _ _ _ _ hG19 (oz14 p4_0 s20 kn1) (kj_meas (oz475 s20 kn1) (oz476 c16 kn8) hm4)
                  ·
                    have c21 : l2_17.toInt < (64 : Int32).toInt := kd_leF c; clear c
                    refine ft_go mi_k188 6 61 [(2, .int l2_17), (1, .int l1_4), (0, .ref 116)] [.int l2_17, .ref 148, .int l2_17, .ref 148] i17 a17 q17 r17 (by rfl) ?_
                    refine ko_iald3 mi_k188.1 (n := 64) (c := 64) (ax := (0, 0, 0, 0, 0)) (mi_k188.2 _ _ (by rfl)) (by rfl) (ksG148 _ _ _ _) (hL17.I.2.1 148) rfl (oz3 p17_1) (oz237 c21 kn64) ?_
                    have s22 : (l2_17 - l2_17 / 8 * 8).toInt = (l2_17.toInt % 8) := kd_rem 8 kn8 (by decide) (oz3 p17_1)
                    have s23 : (l2_17 - (l2_17 - l2_17 / 8 * 8)).toInt = l2_17.toInt - (l2_17 - l2_17 / 8 * 8).toInt := kd_sub (oz477 p17_1 s22) (oz478 c21 s22 kn64)
                    have s24 : ((l2_17 - (l2_17 - l2_17 / 8 * 8)) + l1_4).toInt = (l2_17 - (l2_17 - l2_17 / 8 * 8)).toInt + l1_4.toInt := kd_add (oz479 p17_1 p4_0 s22 s23) (oz480 c16 c21 s22 s23 kn8 kn64)
                    refine ft_go mi_k188 9 74 [(2, .int l2_17), (1, .int l1_4), (0, .ref 116)] [.int ((l2_17 - (l2_17 - l2_17 / 8 * 8)) + l1_4), .ref 148, .int ((a17 148).getD l2_17.toNatClampNeg 0), .int l2_17, .ref 148] i17 a17 q17 r17 (by rfl) ?_
                    refine ko_iald3 mi_k188.1 (n := 64) (c := 64) (ax := (0, 0, 0, 0, 0)) (mi_k188.2 _ _ (by rfl)) (by rfl) (ksG148 _ _ _ _) (hL17.I.2.1 148) rfl (oz481 p17_1 p4_0 s22 s23 s24) (oz482 c16 c21 s22 s23 s24 kn8 kn64) ?_
                    have s25 : (8 * l1_4).toInt = 8 * l1_4.toInt := kd_cmul 8 kn8 (oz345 p4_0) (oz483 c16 kn8)
                    have s26 : ((8 * l1_4) + (l2_17 - l2_17 / 8 * 8)).toInt = (8 * l1_4).toInt + (l2_17 - l2_17 / 8 * 8).toInt := kd_add (oz484 p4_0 s22 s25) (oz485 c16 s22 s25 kn8)
                    refine ft_go mi_k188 9 88 [(2, .int l2_17), (1, .int l1_4), (0, .ref 116)] [.int ((8 * l1_4) + (l2_17 - l2_17 / 8 * 8)), .ref 148, .int ((a17 148).getD ((l2_17 - (l2_17 - l2_17 / 8 * 8)) + l1_4).toNatClampNeg 0), .int ((a17 148).getD l2_17.toNatClampNeg 0), .int l2_17, .ref 148] i17 a17 q17 r17 (by rfl) ?_
                    refine ko_iald3 mi_k188.1 (n := 64) (c := 64) (ax := (0, 0, 0, 0, 0)) (mi_k188.2 _ _ (by rfl)) (by rfl) (ksG148 _ _ _ _) (hL17.I.2.1 148) rfl (oz486 p4_0 s22 s25 s26) (oz487 c16 s22 s25 s26 kn8) ?_
                    have b27 : ((-2147483648 : Int) ≤ ((a17 148).getD ((l2_17 - (l2_17 - l2_17 / 8 * 8)) + l1_4).toNatClampNeg 0).toInt) ∧ (((a17 148).getD ((l2_17 - (l2_17 - l2_17 / 8 * 8)) + l1_4).toNatClampNeg 0).toInt ≤ 2147483647) := kd_bd ((a17 148).getD ((l2_17 - (l2_17 - l2_17 / 8 * 8)) + l1_4).toNatClampNeg 0)
                    have b28 : ((-2147483648 : Int) ≤ ((a17 148).getD ((8 * l1_4) + (l2_17 - l2_17 / 8 * 8)).toNatClampNeg 0).toInt) ∧ (((a17 148).getD ((8 * l1_4) + (l2_17 - l2_17 / 8 * 8)).toNatClampNeg 0).toInt ≤ 2147483647) := kd_bd ((a17 148).getD ((8 * l1_4) + (l2_17 - l2_17 / 8 * 8)).toNatClampNeg 0)
                    refine ft_go mi_k188 1 90 [(2, .int l2_17), (1, .int l1_4), (0, .ref 116)] [.int (((a17 148).getD ((l2_17 - (l2_17 - l2_17 / 8 * 8)) + l1_4).toNatClampNeg 0) + ((a17 148).getD ((8 * l1_4) + (l2_17 - l2_17 / 8 * 8)).toNatClampNeg 0)), .int ((a17 148).getD l2_17.toNatClampNeg 0), .int l2_17, .ref 148] i17 a17 q17 r17 (by rfl) ?_
                    have m30 : (((bif decide ((((a17 148).getD ((l2_17 - (l2_17 - l2_17 / 8 * 8)) + l1_4).toNatClampNeg 0) + ((a17 148).getD ((8 * l1_4) + (l2_17 - l2_17 / 8 * 8)).toNatClampNeg 0)) < ((a17 148).getD l2_17.toNatClampNeg 0)) then (((a17 148).getD ((l2_17 - (l2_17 - l2_17 / 8 * 8)) + l1_4).toNatClampNeg 0) + ((a17 148).getD ((8 * l1_4) + (l2_17 - l2_17 / 8 * 8)).toNatClampNeg 0)) else ((a17 148).getD l2_17.toNatClampNeg 0)).toInt ≤ ((a17 148).getD l2_17.toNatClampNeg 0).toInt) ∧ ((bif decide ((((a17 148).getD ((l2_17 - (l2_17 - l2_17 / 8 * 8)) + l1_4).toNatClampNeg 0) + ((a17 148).getD ((8 * l1_4) + (l2_17 - l2_17 / 8 * 8)).toNatClampNeg 0)) < ((a17 148).getD l2_17.toNatClampNeg 0)) then (((a17 148).getD ((l2_17 - (l2_17 - l2_17 / 8 * 8)) + l1_4).toNatClampNeg 0) + ((a17 148).getD ((8 * l1_4) + (l2_17 - l2_17 / 8 * 8)).toNatClampNeg 0)) else ((a17 148).getD l2_17.toNatClampNeg 0)).toInt ≤ (((a17 148).getD ((l2_17 - (l2_17 - l2_17 / 8 * 8)) + l1_4).toNatClampNeg 0) + ((a17 148).getD ((8 * l1_4) + (l2_17 - l2_17 / 8 * 8)).toNatClampNeg 0)).toInt)) ∧ ((bif decide ((((a17 148).getD ((l2_17 - (l2_17 - l2_17 / 8 * 8)) + l1_4).toNatClampNeg 0) + ((a17 148).getD ((8 * l1_4) + (l2_17 - l2_17 / 8 * 8)).toNatClampNeg 0)) < ((a17 148).getD l2_17.toNatClampNeg 0)) then (((a17 148).getD ((l2_17 - (l2_17 - l2_17 / 8 * 8)) + l1_4).toNatClampNeg 0) + ((a17 148).getD ((8 * l1_4) + (l2_17 - l2_17 / 8 * 8)).toNatClampNeg 0)) else ((a17 148).getD l2_17.toNatClampNeg 0)).toInt = ((a17 148).getD l2_17.toNatClampNeg 0).toInt ∨ (bif decide ((((a17 148).getD ((l2_17 - (l2_17 - l2_17 / 8 * 8)) + l1_4).toNatClampNeg 0) + ((a17 148).getD ((8 * l1_4) + (l2_17 - l2_17 / 8 * 8)).toNatClampNeg 0)) < ((a17 148).getD l2_17.toNatClampNeg 0)) then (((a17 148).getD ((l2_17 - (l2_17 - l2_17 / 8 * 8)) + l1_4).toNatClampNeg 0) + ((a17 148).getD ((8 * l1_4) + (l2_17 - l2_17 / 8 * 8)).toNatClampNeg 0)) else ((a17 148).getD l2_17.toNatClampNeg 0)).toInt = (((a17 148).getD ((l2_17 - (l2_17 - l2_17 / 8 * 8)) + l1_4).toNatClampNeg 0) + ((a17 148).getD ((8 * l1_4) + (l2_17 - l2_17 / 8 * 8)).toNatClampNeg 0)).toInt) := kd_min
                    refine ft_go mi_k188 1 93 [(2, .int l2_17), (1, .int l1_4), (0, .ref 116)] [.int (bif decide ((((a17 148).getD ((l2_17 - (l2_17 - l2_17 / 8 * 8)) + l1_4).toNatClampNeg 0) + ((a17 148).getD ((8 * l1_4) + (l2_17 - l2_17 / 8 * 8)).toNatClampNeg 0)) < ((a17 148).getD l2_17.toNatClampNeg 0)) then (((a17 148).getD ((l2_17 - (l2_17 - l2_17 / 8 * 8)) + l1_4).toNatClampNeg 0) + ((a17 148).getD ((8 * l1_4) + (l2_17 - l2_17 / 8 * 8)).toNatClampNeg 0)) else ((a17 148).getD l2_17.toNatClampNeg 0)), .int l2_17, .ref 148] i17 a17 q17 r17 (by rfl) ?_
                    generalize (bif decide ((((a17 148).getD ((l2_17 - (l2_17 - l2_17 / 8 * 8)) + l1_4).toNatClampNeg 0) + ((a17 148).getD ((8 * l1_4) + (l2_17 - l2_17 / 8 * 8)).toNatClampNeg 0)) < ((a17 148).getD l2_17.toNatClampNeg 0)) then (((a17 148).getD ((l2_17 - (l2_17 - l2_17 / 8 * 8)) + l1_4).toNatClampNeg 0) + ((a17 148).getD ((8 * l1_4) + (l2_17 - l2_17 / 8 * 8)).toNatClampNeg 0)) else ((a17 148).getD l2_17.toNatClampNeg 0)) = m29 at m30 ⊢
                    refine ko_iast3 mi_k188.1 (n := 64) (c := 64) (ax := (0, 0, 0, 0, 0)) (mi_k188.2 _ _ (by rfl)) (by rfl) (ksG148 _ _ _ _) (ksA148 _ _ _ _) (hL17.I.2.1 148) rfl (oz3 p17_1) (oz237 c21 kn64) ?_
                    intro a31 ea31 fa31
                    have hJ31 := kG_a3 hL17 148 rfl ea31 fa31 (kd_bd _)
                    have s32 : (l2_17 + 1).toInt = l2_17.toInt + (1 : Int32).toInt := kd_add (oz12 p17_1 kn1) (oz238 c21 kn64 kn1)
                    refine ft_go mi_k188 2 45 [(2, .int (l2_17 + 1)), (1, .int l1_4), (0, .ref 116)] [] i17 a31 q17 r17 (by rfl) ?_
                    exact ih17 _ _ _ _ _ hJ31 (oz488 c16 p4_0 kn8) (oz14 p17_1 s32 kn1) (kj_meas (oz239 s32 kn1) (oz240 c21 kn64) hm17)
              exact lp17 _ _ _ _ _ _ (kG_self _ hL4.I hL4.R) (oz488 c16 p4_0 kn8) (oz46 kn0) (Nat.lt_succ_self _)
        exact lp4 _ _ _ _ _ _ (kG_self _ hG3.I hG3.R) (oz46 kn0) (Nat.lt_succ_self _)
      ·
        have c33 : l1_1.toInt < (64 : Int32).toInt := kd_leF c; clear c
        refine ft_go mi_k188 6 18 [(1, .int l1_1), (0, .ref 116)] [.int l1_1, .ref 141, .int l1_1, .ref 148] i1 a1 q1 r1 (by rfl) ?_
        refine ko_iald3 mi_k188.1 (n := 64) (c := 64) (ax := (0, 0, 0, 0, 0)) (mi_k188.2 _ _ (by rfl)) (by rfl) (ksG141 _ _ _ _) (hL1.I.2.1 141) rfl (oz3 p1_0) (oz237 c33 kn64) ?_
        refine ft_if mi_k188 (decide (((a1 141).getD l1_1.toNatClampNeg 0) ≤ 0)) 26 22 [(1, .int l1_1), (0, .ref 116)] [.int l1_1, .ref 148] (by rfl) (fun c => ?_) (fun c => ?_)
        ·
          have c34 : ((a1 141).getD l1_1.toNatClampNeg 0).toInt ≤ (0 : Int32).toInt := kd_le c; clear c
          refine ft_go mi_k188 1 28 [(1, .int l1_1), (0, .ref 116)] [.int 99, .int l1_1, .ref 148] i1 a1 q1 r1 (by rfl) ?_
          refine ko_iast3 mi_k188.1 (n := 64) (c := 64) (ax := (0, 0, 0, 0, 0)) (mi_k188.2 _ _ (by rfl)) (by rfl) (ksG148 _ _ _ _) (ksA148 _ _ _ _) (hL1.I.2.1 148) rfl (oz3 p1_0) (oz237 c33 kn64) ?_
          intro a35 ea35 fa35
          have hJ35 := kG_a3 hL1 148 rfl ea35 fa35 (kd_bd _)
          have s36 : (l1_1 + 1).toInt = l1_1.toInt + (1 : Int32).toInt := kd_add (oz12 p1_0 kn1) (oz238 c33 kn64 kn1)
          refine ft_go mi_k188 2 2 [(1, .int (l1_1 + 1)), (0, .ref 116)] [] i1 a35 q1 r1 (by rfl) ?_
          exact ih1 _ _ _ _ _ hJ35 (oz14 p1_0 s36 kn1) (kj_meas (oz239 s36 kn1) (oz240 c33 kn64) hm1)
        ·
          have c37 : (0 : Int32).toInt < ((a1 141).getD l1_1.toNatClampNeg 0).toInt := kd_leF c; clear c
          refine ft_go mi_k188 2 28 [(1, .int l1_1), (0, .ref 116)] [.int 1, .int l1_1, .ref 148] i1 a1 q1 r1 (by rfl) ?_
          refine ko_iast3 mi_k188.1 (n := 64) (c := 64) (ax := (0, 0, 0, 0, 0)) (mi_k188.2 _ _ (by rfl)) (by rfl) (ksG148 _ _ _ _) (ksA148 _ _ _ _) (hL1.I.2.1 148) rfl (oz3 p1_0) (oz237 c33 kn64) ?_
          intro a38 ea38 fa38
          have hJ38 := kG_a3 hL1 148 rfl ea38 fa38 (kd_bd _)
          have s39 : (l1_1 + 1).toInt = l1_1.toInt + (1 : Int32).toInt := kd_add (oz12 p1_0 kn1) (oz238 c33 kn64 kn1)
          refine ft_go mi_k188 2 2 [(1, .int (l1_1 + 1)), (0, .ref 116)] [] i1 a38 q1 r1 (by rfl) ?_
          exact ih1 _ _ _ _ _ hJ38 (oz14 p1_0 s39 kn1) (kj_meas (oz239 s39 kn1) (oz240 c33 kn64) hm1)
  exact lp1 _ _ _ _ _ _ (kG_self _ hG.I hG.R) (oz46 kn0) (Nat.lt_succ_self _)
set_option maxRecDepth 100000 in
theorem kc190_116 {i : Nat → Int32} {a : Nat → List Int32} {q : Nat → List Int64} {r : Nat → Nat} (hI : kI i a q) (hr : kr r) (x1 : Int32) : km 5 190 [.ref 116, .int x1] (ks i a q r) (kPI (ks i a q r) (fun v => (v = 1 ∧ (((0 : Int) ≤ x1.toInt) ∧ (((0 : Int) ≤ (x1.toInt / 10)) ∧ ((x1.toInt / 10) ≤ 5)) ∧ ((x1.toInt % 10) ≤ 5))) ∨ (v = 0 ∧ (¬ (((0 : Int) ≤ x1.toInt) ∧ (((0 : Int) ≤ (x1.toInt / 10)) ∧ ((x1.toInt / 10) ≤ 5)) ∧ ((x1.toInt % 10) ≤ 5)))))) := by
  have hG := kG_self kW0 hI hr
  refine km_ofPI (q := (mi_h190, mi_c190)) rfl (by decide) (Nat.le_of_ble_eq_true rfl) ?_
  intro P hP
  refine ft_go mi_k190 1 1 [(0, .ref 116), (1, .int x1)] [.int x1] i a q r (by rfl) ?_
  refine ft_if mi_k190 (decide (x1 < 0)) 28 4 [(0, .ref 116), (1, .int x1)] [] (by rfl) (fun c => ?_) (fun c => ?_)
  ·
    have c1 : x1.toInt < (0 : Int32).toInt := kd_lt c; clear c
    refine ft_go mi_k190 1 29 [(0, .ref 116), (1, .int x1)] [.int 0] i a q r (by rfl) ?_
    exact ft_ret mi_k190 (by rfl) (hP 0 (Or.inr ⟨rfl, (oz495 c1 kn0)⟩))
  ·
    have c2 : (0 : Int32).toInt ≤ x1.toInt := kd_ltF c; clear c
    have s3 : (x1 / 10).toInt = (x1.toInt / 10) := kd_div 10 kn10 (by decide) (oz389 c2 kn0)
    refine ft_go mi_k190 3 8 [(0, .ref 116), (1, .int x1)] [.int (x1 / 10)] i a q r (by rfl) ?_
    refine ko_callPI mi_k190.1 (pc := 8) (ls := [(0, .ref 116), (1, .int x1)]) (st := [.int (x1 / 10)]) (h := ks i a q r) (i := (.invokestatic 127, 3, 133, 0, 9, 0, 382)) (mi_k190.2 _ _ (by rfl)) (ft_invS mi_pq133 (by rfl)) (cy := mi_c133) mi_pq133 rfl (kc133 hG.I hG.R (x1 / 10)) (by decide) ?_
    intro vg4 hg4
    rcases hg4 with ⟨eg4, hg4⟩ | ⟨eg4, hg4⟩
    ·
      subst eg4
      have z5 : ((0 : Int) ≤ (x1 / 10).toInt) ∧ ((x1 / 10).toInt ≤ 5) := hg4
      have s6 : (x1 - x1 / 10 * 10).toInt = (x1.toInt % 10) := kd_rem 10 kn10 (by decide) (oz389 c2 kn0)
      refine ft_go mi_k190 4 18 [(0, .ref 116), (1, .int x1)] [.int (x1 - x1 / 10 * 10)] i a q r (by rfl) ?_
      refine ko_callPI mi_k190.1 (pc := 18) (ls := [(0, .ref 116), (1, .int x1)]) (st := [.int (x1 - x1 / 10 * 10)]) (h := ks i a q r) (i := (.invokestatic 127, 3, 133, 0, 9, 0, 382)) (mi_k190.2 _ _ (by rfl)) (ft_invS mi_pq133 (by rfl)) (cy := mi_c133) mi_pq133 rfl (kc133 hG.I hG.R (x1 - x1 / 10 * 10)) (by decide) ?_
      intro vg7 hg7
      rcases hg7 with ⟨eg7, hg7⟩ | ⟨eg7, hg7⟩
      ·
        subst eg7
        have z8 : ((0 : Int) ≤ (x1 - x1 / 10 * 10).toInt) ∧ ((x1 - x1 / 10 * 10).toInt ≤ 5) := hg7
        refine ft_go mi_k190 3 29 [(0, .ref 116), (1, .int x1)] [.int 1] i a q r (by rfl) ?_
        exact ft_ret mi_k190 (by rfl) (hP 1 (Or.inl ⟨rfl, (oz496 c2 s3 s6 z5.1 z5.2 z8.2 kn0)⟩))
      ·
        subst eg7
        have z9 : ¬ (((0 : Int) ≤ (x1 - x1 / 10 * 10).toInt) ∧ ((x1 - x1 / 10 * 10).toInt ≤ 5)) := hg7
        refine ft_go mi_k190 2 29 [(0, .ref 116), (1, .int x1)] [.int 0] i a q r (by rfl) ?_
        exact ft_ret mi_k190 (by rfl) (hP 0 (Or.inr ⟨rfl, (oz497 s6 z9)⟩))
    ·
      subst eg4
      have z10 : ¬ (((0 : Int) ≤ (x1 / 10).toInt) ∧ ((x1 / 10).toInt ≤ 5)) := hg4
      refine ft_go mi_k190 2 29 [(0, .ref 116), (1, .int x1)] [.int 0] i a q r (by rfl) ?_
      exact ft_ret mi_k190 (by rfl) (hP 0 (Or.inr ⟨rfl, (oz498 c2 s3 z10 kn0)⟩))
set_option maxRecDepth 100000 in
theorem kc191_116 {i : Nat → Int32} {a : Nat → List Int32} {q : Nat → List Int64} {r : Nat → Nat} (hI : kI i a q) (hr : kr r) (x1 : Int32) (hp0 : ((0 : Int) ≤ (x1.toInt / 10)) ∧ ((x1.toInt / 10) ≤ 5)) (hp1 : (0 : Int) ≤ x1.toInt) (hp2 : (x1.toInt % 10) ≤ 5) : km 3 191 [.ref 116, .int x1] (ks i a q r) (kPI (ks i a q r) (fun v => (v.toInt < 0) ∨ (v.toInt = 0))) := by
  have hG := kG_self kW0 hI hr
  refine km_ofPI (q := (mi_h191, mi_c191)) rfl (by decide) (Nat.le_of_ble_eq_true rfl) ?_
  intro P hP
  have s1 : (x1 / 10).toInt = (x1.toInt / 10) := kd_div 10 kn10 (by decide) (oz3 hp1)
  refine ft_go mi_k191 4 5 [(0, .ref 116), (1, .int x1)] [.int (x1 / 10), .ref 116] i a q r (by rfl) ?_
  refine ko_callPI mi_k191.1 (pc := 5) (ls := [(0, .ref 116), (1, .int x1)]) (st := [.int (x1 / 10), .ref 116]) (h := ks i a q r) (i := (.invokevirtual 276, 3, 173, 0, 9, 0, 410)) (mi_k191.2 _ _ (by rfl)) (ft_invS mi_pq173 (by rfl)) (cy := mi_c173) mi_pq173 rfl (kc173_116 hG.I hG.R (x1 / 10) (oz499 hp0.2 hp1 hp2 s1)) (by decide) ?_
  intro vg2 hg2
  refine ft_go mi_k191 2 10 [(2, .int vg2), (0, .ref 116), (1, .int x1)] [.int vg2] i a q r (by rfl) ?_
  refine ft_if mi_k191 (decide (0 ≤ vg2)) 17 13 [(2, .int vg2), (0, .ref 116), (1, .int x1)] [] (by rfl) (fun c => ?_) (fun c => ?_)
  ·
    have c4 : (0 : Int32).toInt ≤ vg2.toInt := kd_le c; clear c
    have s5 : (x1 - x1 / 10 * 10).toInt = (x1.toInt % 10) := kd_rem 10 kn10 (by decide) (oz3 hp1)
    refine ft_go mi_k191 4 22 [(2, .int vg2), (0, .ref 116), (1, .int x1)] [.int (x1 - x1 / 10 * 10), .ref 116] i a q r (by rfl) ?_
    refine ko_callPI mi_k191.1 (pc := 22) (ls := [(2, .int vg2), (0, .ref 116), (1, .int x1)]) (st := [.int (x1 - x1 / 10 * 10), .ref 116]) (h := ks i a q r) (i := (.invokevirtual 276, 3, 173, 0, 9, 0, 410)) (mi_k191.2 _ _ (by rfl)) (ft_invS mi_pq173 (by rfl)) (cy := mi_c173) mi_pq173 rfl (kc173_116 hG.I hG.R (x1 - x1 / 10 * 10) (oz500 hp2 s5)) (by decide) ?_
    intro vg6 hg6
    have z7 : (vg6.toInt < 0) ∨ (vg6.toInt = 0) := hg6
    exact ft_ret mi_k191 (by rfl) (hP vg6 (oz501 z7))
  ·
    have c8 : vg2.toInt < (0 : Int32).toInt := kd_leF c; clear c
    refine ft_go mi_k191 2 25 [(2, .int vg2), (0, .ref 116), (1, .int x1)] [.int vg2] i a q r (by rfl) ?_
    exact ft_ret mi_k191 (by rfl) (hP vg2 (oz502 c8 kn0))

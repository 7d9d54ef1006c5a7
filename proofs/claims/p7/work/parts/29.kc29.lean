theorem kn10000 : (10000 : Int32).toInt = 10000 := by decide
theorem kn30 : (30 : Int32).toInt = 30 := by decide
theorem oz390 {a0 a1 : Int} (h0 : a0 ≠ a1) (h1 : a0 = a1) (h2 : a1 = (-1)) : False := by omega
theorem oz391 {a0 a1 a2 : Int} (h0 : a0 ≤ a1) (h1 : a1 = 0) (h2 : a2 = 1) : a0 + a2 ≤ 2147483647 := by omega
theorem oz392 {a0 : Int} (h0 : (9 : Int) ≤ a0) : (0 : Int) ≤ a0 := by omega
theorem oz393 {a0 a1 : Int} (h0 : a0 < a1) (h1 : a1 = 18) : a0 < 31 := by omega
theorem oz394 {a0 a1 a2 : Int} (h0 : a0 < a1) (h1 : a1 = 18) (h2 : a2 = 0) : a0 = 18 → (0 : Int) ≤ a2 ∧ a2 ≤ 5 := by omega
theorem oz395 {a0 a1 a2 : Int} (h0 : a0 < a1) (h1 : a1 = 18) (h2 : a2 = 0) : 19 ≤ a0 → a0 ≤ 24 → (0 : Int) ≤ a2 ∧ a2 ≤ 7 := by omega
theorem oz396 {a0 a1 : Int} (h0 : (9 : Int) ≤ a0) (h1 : a1 = 1) : (-2147483648 : Int) ≤ a0 + a1 := by omega
theorem oz397 {a0 a1 a2 : Int} (h0 : a0 < a1) (h1 : a1 = 18) (h2 : a2 = 1) : a0 + a2 ≤ 2147483647 := by omega
theorem oz398 {a0 a1 a2 : Int} (h0 : (9 : Int) ≤ a0) (h1 : a1 = a0 + a2) (h2 : a2 = 1) : (9 : Int) ≤ a1 := by omega
theorem oz399 {a0 a1 a2 : Int} (h0 : a0 = a1 + a2) (h1 : a2 = 1) : (18 - a0) < (18 - a1) := by omega
theorem oz400 {a0 a1 : Int} (h0 : a0 < a1) (h1 : a1 = 18) : (1 : Int) ≤ (18 - a0) := by omega
theorem oz401 {a0 : Int} (h0 : a0 = 9) : (9 : Int) ≤ a0 := by omega
theorem oz402 {a0 a1 a2 : Int} (h0 : a0 < a1) (h1 : a0 = 0) (h2 : a2 = 1) : (-2147483648 : Int) ≤ a1 + a2 := by omega
theorem oz403 {a0 a1 a2 a3 : Int} (h0 : a0 < a1) (h1 : a1 ≤ a2) (h2 : a2 = 20) (h3 : a3 = 1) : a0 + a3 ≤ 2147483647 := by omega
theorem oz404 {a0 a1 a2 a3 : Int} (h0 : a0 < a1) (h1 : a2 = a1 + a3) (h2 : a0 = 0) (h3 : a3 = 1) : (0 : Int) ≤ a2 := by omega
theorem oz405 {a0 a1 : Int} (h0 : a0 = a1) (h1 : (0 : Int) ≤ a0) (h2 : a1 = (-1)) : False := by omega
theorem oz406 {a0 a1 : Int} (h0 : a0 ≤ a1) (h1 : a1 ≤ 20) : a0 < 21 := by omega
theorem oz407 {a0 : Int} (h0 : a0 ≤ 7) : a0 ≤ 7 := by omega
theorem oz408 {a0 a1 a2 a3 : Int} (h0 : a0 = a1) (h1 : a1 ≤ 20) (h2 : a2 = a0 + a3) (h3 : a3 = 1) : a2 ≤ 21 := by omega
theorem oz409 {a0 a1 a2 a3 : Int} (h0 : a0 = a1) (h1 : a2 = a0 + a3) (h2 : a3 = 1) : a2 = (a1 + 1) := by omega
theorem oz410 {a0 a1 a2 : Int} (h0 : a0 < a1) (h1 : (0 : Int) ≤ a0) (h2 : a2 = 1) : (-2147483648 : Int) ≤ a1 - a2 := by omega
theorem oz411 {a0 a1 a2 a3 : Int} (h0 : a0 = a1) (h1 : a1 ≤ 20) (h2 : a2 ≤ a0) (h3 : a3 = 1) : a2 - a3 ≤ 2147483647 := by omega
theorem oz412 {a0 a1 a2 a3 : Int} (h0 : a0 < a1) (h1 : (0 : Int) ≤ a0) (h2 : a2 = a1 - a3) (h3 : a3 = 1) : (0 : Int) ≤ a2 := by omega
theorem oz413 {a0 a1 a2 a3 a4 : Int} (h0 : a0 = a1) (h1 : a1 ≤ 20) (h2 : a2 ≤ a0) (h3 : a3 = a2 - a4) (h4 : a4 = 1) : a3 < 21 := by omega
theorem oz414 {a0 a1 : Int} (h0 : a0 < a1) (h1 : (0 : Int) ≤ a0) : (0 : Int) ≤ a1 := by omega
theorem oz415 {a0 a1 a2 : Int} (h0 : a0 = a1) (h1 : a1 ≤ 20) (h2 : a2 ≤ a0) : a2 < 21 := by omega
theorem oz416 {a0 a1 a2 : Int} (h0 : a0 < a1) (h1 : (0 : Int) ≤ a0) (h2 : a2 = (-1)) : (-2147483648 : Int) ≤ a1 + a2 := by omega
theorem oz417 {a0 a1 a2 a3 : Int} (h0 : a0 = a1) (h1 : a1 ≤ 20) (h2 : a2 ≤ a0) (h3 : a3 = (-1)) : a2 + a3 ≤ 2147483647 := by omega
theorem oz418 {a0 a1 a2 a3 : Int} (h0 : a0 ≤ a1) (h1 : a2 = a0 + a3) (h2 : a3 = (-1)) : a2 ≤ a1 := by omega
theorem oz419 {a0 a1 a2 a3 : Int} (h0 : a0 < a1) (h1 : a2 = a1 + a3) (h2 : a3 = (-1)) : a0 ≤ a2 := by omega
theorem oz420 {a0 a1 a2 a3 : Int} (h0 : a0 = a1 + a2) (h1 : a2 = (-1)) : (a0 - a3) < (a1 - a3) := by omega
theorem oz423 {a0 a1 : Int} (h0 : a0 ≤ 8) (h1 : (0 : Int) ≤ a1) (h2 : a1 < a0) : ((0 : Int) ≤ a1) ∧ (a1 ≤ 7) := by omega
theorem oz424 {a0 a1 : Int} (h0 : a0 ≤ 21) (h1 : a1 = 1) : a0 - a1 ≤ 2147483647 := by omega
theorem oz425 {a0 a1 a2 : Int} (h0 : (1 : Int) ≤ a0) (h1 : a1 = a0 - a2) (h2 : a2 = 1) : (0 : Int) ≤ a1 := by omega
theorem oz426 {a0 a1 a2 : Int} (h0 : a0 ≤ 21) (h1 : a1 = a0 - a2) (h2 : a2 = 1) : a1 ≤ 21 := by omega
theorem oz427 {a0 a1 a2 a3 : Int} (h0 : a0 = a1) (h1 : a1 = a2 - a3) (h2 : a3 = 1) : a0 = (a2 - 1) := by omega
theorem oz428 {a0 a1 a2 a3 a4 a5 : Int} (h0 : a0 < a1) (h1 : a1 = a2) (h2 : a3 ≤ 21) (h3 : a2 = a3 - a4) (h4 : a5 = a0 + a4) (h5 : a4 = 1) : a5 < 21 := by omega
theorem oz429 {a0 a1 a2 : Int} (h0 : a0 = a1) (h1 : (0 : Int) ≤ a2) (h2 : a1 = (a2 + 1)) : (1 : Int) ≤ a0 := by omega
theorem oz430 {a0 a1 a2 : Int} (h0 : a0 ≤ a1) (h1 : a1 ≤ 21) (h2 : a2 = 1) : a0 + a2 ≤ 2147483647 := by omega
theorem oz432 {a0 : Int} (h0 : a0 ≤ 19) : a0 ≤ 19 := by omega
theorem oz433 {a0 a1 a2 a3 : Int} (h0 : a0 = a1 + a2) (h1 : a2 = 1) : ((a3 + 1) - a0) < ((a3 + 1) - a1) := by omega
theorem oz434 {a0 a1 : Int} (h0 : a0 ≤ a1) : (1 : Int) ≤ ((a1 + 1) - a0) := by omega
theorem oz435 {a0 a1 : Int} (h0 : a0 ≠ a1) (h1 : a0 ≤ 20) (h2 : a1 = 20) : a0 ≤ 19 := by omega
theorem oz436 {a0 a1 a2 : Int} (h0 : a0 ≤ a1) (h1 : (0 : Int) ≤ a0) (h2 : a1 = a2) : ((0 : Int) ≤ a0) ∧ (a0 ≤ a2) := by omega
theorem oz437 {a0 a1 : Int} (h0 : a0 = a1) (h1 : a0 ≤ 19) : a1 ≤ 20 := by omega
theorem oz438 {a0 a1 a2 a3 a4 : Int} (h0 : a0 = a1) (h1 : a2 = a3) (h2 : a1 = (a3 + 1)) (h3 : a4 = (a0 - 1)) : a2 = a4 := by omega
theorem oz440 {a0 : Int} (h0 : a0 ≤ 19) : a0 ≤ 20 := by omega
theorem oz441 {a0 a1 : Int} (h0 : a0 < a1) (h1 : a1 ≤ 8) (h2 : (0 : Int) ≤ a0) : ((0 : Int) ≤ a0) ∧ (a0 ≤ 7) := by omega
theorem oz442 {a0 a1 a2 : Int} (h0 : a0 < a1) (h1 : a1 ≤ 8) (h2 : a2 = 1) : a0 + a2 ≤ 2147483647 := by omega
theorem oz443 {a0 a1 a2 a3 : Int} (h0 : a0 = a1) (h1 : a2 ≤ 19) (h2 : a1 = (a2 + 1)) (h3 : a3 = (a0 - 1)) : a3 ≤ 19 := by omega
theorem oz445 {a0 a1 a2 a3 a4 a5 a6 : Int} (h0 : a0 = a1) (h1 : a2 = a0) (h2 : a3 = a2) (h3 : a4 = a5 + a6) (h4 : a6 = 1) : (a3 - a4) < (a1 - a5) := by omega
theorem oz446 {a0 a1 a2 : Int} (h0 : a0 ≤ a1) (h1 : a1 ≤ a2) (h2 : a0 = 0) : ((0 : Int) ≤ a1) ∧ (a1 ≤ a2) := by omega
theorem oz447 {a0 a1 a2 a3 a4 : Int} (h0 : a0 = a1) (h1 : a2 ≤ a3) (h2 : a1 = (a3 + 1)) (h3 : a4 = (a0 - 1)) : a2 ≤ a4 := by omega
theorem oz448 {a0 a1 : Int} (h0 : a0 ≤ 20) (h1 : a1 = 1) : a0 + a1 ≤ 2147483647 := by omega
theorem oz449 {a0 : Int} (h0 : a0 ≤ 19) : a0 < 21 := by omega
theorem oz450 {a0 a1 : Int} (h0 : a0 ≤ 19) (h1 : a1 = 1) : a0 + a1 ≤ 2147483647 := by omega
theorem oz451 {a0 a1 a2 : Int} (h0 : a0 ≤ 19) (h1 : a1 = a0 + a2) (h2 : a2 = 1) : a1 < 21 := by omega
theorem oz452 {a0 a1 a2 a3 : Int} (h0 : a0 < a1) (h1 : a1 ≤ 21) (h2 : (0 : Int) ≤ a2) (h3 : a0 = a2 + a3) (h4 : a3 = 1) : ((0 : Int) ≤ a2) ∧ (a2 ≤ 19) := by omega
theorem oz453 {a0 a1 a2 a3 : Int} (h0 : a0 < a1) (h1 : a1 ≤ 21) (h2 : (0 : Int) ≤ a2) (h3 : a0 = a2 + a3) (h4 : a3 = 1) : ((0 : Int) ≤ a0) ∧ (a0 ≤ 20) := by omega
theorem oz454 {a0 a1 a2 a3 : Int} (h0 : a0 = a1) (h1 : a2 = a0) (h2 : a3 = a2) (h3 : a1 ≤ 20) : a3 ≤ 20 := by omega
theorem oz455 {a0 a1 a2 a3 : Int} (h0 : a0 < a1) (h1 : a0 = a2 + a3) (h2 : a3 = 1) : (1 : Int) ≤ (a1 - a2) := by omega
theorem oz456 {a0 : Int} (h0 : a0 = 0) : ((0 : Int) ≤ a0) ∧ (a0 ≤ 20) := by omega
theorem oz457 {a0 a1 : Int} (h0 : a0 = a1) (h1 : a1 ≤ 20) : a0 ≤ 20 := by omega
theorem oz458 {a0 a1 a2 : Int} (h0 : a0 < a1) (h1 : a1 = 0) : ¬ (((0 : Int) ≤ a0) ∧ (((a0 / 10) < a2) ∧ ((a0 % 10) < a2)) ∧ ((a0 / 10) ≠ (a0 % 10))) := by omega
theorem oz459 {a0 a1 a2 a3 : Int} (h0 : a0 = a1) (h1 : a0 = (a2 / 10)) (h2 : a1 = (a2 % 10)) : ¬ (((0 : Int) ≤ a2) ∧ (((a2 / 10) < a3) ∧ ((a2 % 10) < a3)) ∧ ((a2 / 10) ≠ (a2 % 10))) := by omega
theorem oz460 {a0 a1 a2 a3 a4 : Int} (h0 : a0 ≠ a1) (h1 : a2 ≤ a3) (h2 : a0 = (a3 / 10)) (h3 : a1 = (a3 % 10)) (h4 : a0 < a4) (h5 : a1 < a4) (h6 : a2 = 0) : ((0 : Int) ≤ a3) ∧ (((a3 / 10) < a4) ∧ ((a3 % 10) < a4)) ∧ ((a3 / 10) ≠ (a3 % 10)) := by omega
theorem oz461 {a0 a1 a2 : Int} (h0 : a0 = (a1 % 10)) (h1 : ¬ (((0 : Int) ≤ a0) ∧ (a0 < a2))) : ¬ (((0 : Int) ≤ a1) ∧ (((a1 / 10) < a2) ∧ ((a1 % 10) < a2)) ∧ ((a1 / 10) ≠ (a1 % 10))) := by omega
theorem oz462 {a0 a1 a2 a3 : Int} (h0 : a0 ≤ a1) (h1 : a2 = (a1 / 10)) (h2 : ¬ (((0 : Int) ≤ a2) ∧ (a2 < a3))) (h3 : a0 = 0) : ¬ (((0 : Int) ≤ a1) ∧ (((a1 / 10) < a3) ∧ ((a1 % 10) < a3)) ∧ ((a1 / 10) ≠ (a1 % 10))) := by omega
theorem oz463 {a0 : Int} (h0 : a0 = 0) : ((0 : Int) ≤ a0) ∧ (a0 ≤ 7) := by omega
theorem oz464 {a0 a1 : Int} (h0 : a0 = (a1 / 10)) (h1 : (0 : Int) ≤ a1) : (-2147483648 : Int) ≤ 8 * a0 := by omega
theorem oz465 {a0 a1 a2 : Int} (h0 : a0 ≤ 8) (h1 : a1 = (a2 / 10)) (h2 : (a2 / 10) < a0) (h3 : (a2 % 10) < a0) (h4 : (a2 / 10) ≠ (a2 % 10)) : 8 * a1 ≤ 2147483647 := by omega
theorem oz466 {a0 a1 a2 a3 : Int} (h0 : a0 = (a1 / 10)) (h1 : a2 = 8 * a0) (h2 : a3 = (a1 % 10)) (h3 : (0 : Int) ≤ a1) : (-2147483648 : Int) ≤ a2 + a3 := by omega
theorem oz467 {a0 a1 a2 a3 a4 : Int} (h0 : a0 ≤ 8) (h1 : a1 = (a2 / 10)) (h2 : a3 = 8 * a1) (h3 : a4 = (a2 % 10)) (h4 : (a2 / 10) < a0) (h5 : (a2 % 10) < a0) (h6 : (a2 / 10) ≠ (a2 % 10)) : a3 + a4 ≤ 2147483647 := by omega
theorem oz468 {a0 a1 a2 a3 a4 : Int} (h0 : a0 = (a1 / 10)) (h1 : a2 = 8 * a0) (h2 : a3 = (a1 % 10)) (h3 : a4 = a2 + a3) (h4 : (0 : Int) ≤ a1) : (0 : Int) ≤ a4 := by omega
theorem oz469 {a0 a1 a2 a3 a4 a5 : Int} (h0 : a0 ≤ 8) (h1 : a1 = (a2 / 10)) (h2 : a3 = 8 * a1) (h3 : a4 = (a2 % 10)) (h4 : a5 = a3 + a4) (h5 : (a2 / 10) < a0) (h6 : (a2 % 10) < a0) (h7 : (a2 / 10) ≠ (a2 % 10)) : a5 < 64 := by omega
theorem oz470 {a0 : Int} (h0 : (0 : Int) ≤ a0) : (-2147483648 : Int) ≤ 9 * a0 := by omega
theorem oz471 {a0 a1 : Int} (h0 : a0 < a1) (h1 : a1 = 8) : 9 * a0 ≤ 2147483647 := by omega
theorem oz472 {a0 a1 : Int} (h0 : (0 : Int) ≤ a0) (h1 : a1 = 9 * a0) : (0 : Int) ≤ a1 := by omega
theorem oz473 {a0 a1 a2 : Int} (h0 : a0 < a1) (h1 : a2 = 9 * a0) (h2 : a1 = 8) : a2 < 64 := by omega
theorem oz474 {a0 a1 a2 : Int} (h0 : a0 < a1) (h1 : a1 = 8) (h2 : a2 = 1) : a0 + a2 ≤ 2147483647 := by omega
theorem oz475 {a0 a1 a2 : Int} (h0 : a0 = a1 + a2) (h1 : a2 = 1) : (8 - a0) < (8 - a1) := by omega
theorem oz476 {a0 a1 : Int} (h0 : a0 < a1) (h1 : a1 = 8) : (1 : Int) ≤ (8 - a0) := by omega
theorem oz477 {a0 a1 : Int} (h0 : (0 : Int) ≤ a0) (h1 : a1 = (a0 % 8)) : (-2147483648 : Int) ≤ a0 - a1 := by omega
theorem oz478 {a0 a1 a2 : Int} (h0 : a0 < a1) (h1 : a2 = (a0 % 8)) (h2 : a1 = 64) : a0 - a2 ≤ 2147483647 := by omega
theorem oz479 {a0 a1 a2 a3 : Int} (h0 : (0 : Int) ≤ a0) (h1 : (0 : Int) ≤ a1) (h2 : a2 = (a0 % 8)) (h3 : a3 = a0 - a2) : (-2147483648 : Int) ≤ a3 + a1 := by omega
theorem oz480 {a0 a1 a2 a3 a4 a5 : Int} (h0 : a0 < a1) (h1 : a2 < a3) (h2 : a4 = (a2 % 8)) (h3 : a5 = a2 - a4) (h4 : a1 = 8) (h5 : a3 = 64) : a5 + a0 ≤ 2147483647 := by omega
theorem oz481 {a0 a1 a2 a3 a4 : Int} (h0 : (0 : Int) ≤ a0) (h1 : (0 : Int) ≤ a1) (h2 : a2 = (a0 % 8)) (h3 : a3 = a0 - a2) (h4 : a4 = a3 + a1) : (0 : Int) ≤ a4 := by omega
theorem oz482 {a0 a1 a2 a3 a4 a5 a6 : Int} (h0 : a0 < a1) (h1 : a2 < a3) (h2 : a4 = (a2 % 8)) (h3 : a5 = a2 - a4) (h4 : a6 = a5 + a0) (h5 : a1 = 8) (h6 : a3 = 64) : a6 < 64 := by omega
theorem oz483 {a0 a1 : Int} (h0 : a0 < a1) (h1 : a1 = 8) : 8 * a0 ≤ 2147483647 := by omega
theorem oz484 {a0 a1 a2 a3 : Int} (h0 : (0 : Int) ≤ a0) (h1 : a1 = (a2 % 8)) (h2 : a3 = 8 * a0) : (-2147483648 : Int) ≤ a3 + a1 := by omega
theorem oz485 {a0 a1 a2 a3 a4 : Int} (h0 : a0 < a1) (h1 : a2 = (a3 % 8)) (h2 : a4 = 8 * a0) (h3 : a1 = 8) : a4 + a2 ≤ 2147483647 := by omega
theorem oz486 {a0 a1 a2 a3 a4 : Int} (h0 : (0 : Int) ≤ a0) (h1 : a1 = (a2 % 8)) (h2 : a3 = 8 * a0) (h3 : a4 = a3 + a1) : (0 : Int) ≤ a4 := by omega
theorem oz487 {a0 a1 a2 a3 a4 a5 : Int} (h0 : a0 < a1) (h1 : a2 = (a3 % 8)) (h2 : a4 = 8 * a0) (h3 : a5 = a4 + a2) (h4 : a1 = 8) : a5 < 64 := by omega
theorem oz488 {a0 a1 : Int} (h0 : a0 < a1) (h1 : (0 : Int) ≤ a0) (h2 : a1 = 8) : ((0 : Int) ≤ a0) ∧ (a0 ≤ 7) := by omega
theorem oz489 {a0 : Int} (h0 : (1 : Int) ≤ a0) : (0 : Int) ≤ a0 := by omega
theorem oz490 {a0 a1 : Int} (h0 : a0 < a1) (h1 : a1 ≤ 8) : a0 < 31 := by omega
theorem oz491 {a0 a1 : Int} (h0 : (1 : Int) ≤ a0) (h1 : a1 = 1) : (-2147483648 : Int) ≤ a0 + a1 := by omega
theorem oz492 {a0 a1 a2 : Int} (h0 : (1 : Int) ≤ a0) (h1 : a1 = a0 + a2) (h2 : a2 = 1) : (1 : Int) ≤ a1 := by omega
theorem oz493 {a0 a1 : Int} (h0 : a0 < a1) (h1 : a1 ≤ 8) (h2 : (1 : Int) ≤ a0) : ((0 : Int) ≤ a0) ∧ (a0 ≤ 7) := by omega
theorem oz494 {a0 : Int} (h0 : a0 = 1) : (1 : Int) ≤ a0 := by omega
theorem oz495 {a0 a1 : Int} (h0 : a0 < a1) (h1 : a1 = 0) : ¬ (((0 : Int) ≤ a0) ∧ (((0 : Int) ≤ (a0 / 10)) ∧ ((a0 / 10) ≤ 5)) ∧ ((a0 % 10) ≤ 5)) := by omega
theorem oz496 {a0 a1 a2 a3 : Int} (h0 : a0 ≤ a1) (h1 : a2 = (a1 / 10)) (h2 : a3 = (a1 % 10)) (h3 : (0 : Int) ≤ a2) (h4 : a2 ≤ 5) (h5 : a3 ≤ 5) (h6 : a0 = 0) : ((0 : Int) ≤ a1) ∧ (((0 : Int) ≤ (a1 / 10)) ∧ ((a1 / 10) ≤ 5)) ∧ ((a1 % 10) ≤ 5) := by omega
theorem oz497 {a0 a1 : Int} (h0 : a0 = (a1 % 10)) (h1 : ¬ (((0 : Int) ≤ a0) ∧ (a0 ≤ 5))) : ¬ (((0 : Int) ≤ a1) ∧ (((0 : Int) ≤ (a1 / 10)) ∧ ((a1 / 10) ≤ 5)) ∧ ((a1 % 10) ≤ 5)) := by omega
theorem oz498 {a0 a1 a2 : Int} (h0 : a0 ≤ a1) (h1 : a2 = (a1 / 10)) (h2 : ¬ (((0 : Int) ≤ a2) ∧ (a2 ≤ 5))) (h3 : a0 = 0) : ¬ (((0 : Int) ≤ a1) ∧ (((0 : Int) ≤ (a1 / 10)) ∧ ((a1 / 10) ≤ 5)) ∧ ((a1 % 10) ≤ 5)) := by omega
theorem oz499 {a0 a1 : Int} (h0 : (a0 / 10) ≤ 5) (h1 : (0 : Int) ≤ a0) (h2 : (a0 % 10) ≤ 5) (h3 : a1 = (a0 / 10)) : ((0 : Int) ≤ a1) ∧ (a1 ≤ 5) := by omega
theorem oz500 {a0 a1 : Int} (h0 : (a0 % 10) ≤ 5) (h1 : a1 = (a0 % 10)) : ((0 : Int) ≤ a1) ∧ (a1 ≤ 5) := by omega
theorem oz501 {a0 : Int} (h0 : (a0 < 0) ∨ (a0 = 0)) : (a0 < 0) ∨ (a0 = 0) := by omega
theorem oz502 {a0 a1 : Int} (h0 : a0 < a1) (h1 : a1 = 0) : (a0 < 0) ∨ (a0 = 0) := by omega
theorem oz503 {a0 : Int} (h0 : (0 : Int) ≤ (a0 / 10)) (h1 : (a0 / 10) ≤ 5) : ((0 : Int) ≤ (a0 / 10)) ∧ ((a0 / 10) ≤ 5) := by omega
theorem oz504 {a0 : Int} (h0 : (a0 % 10) ≤ 5) : (a0 % 10) ≤ 5 := by omega
theorem oz505 {a0 a1 : Int} (h0 : a0 = (a1 / 10)) (h1 : (0 : Int) ≤ a1) (h2 : (a1 / 10) ≤ 5) (h3 : (a1 % 10) ≤ 5) : ((0 : Int) ≤ a0) ∧ (a0 ≤ 5) := by omega
theorem oz506 {a0 a1 : Int} (h0 : a0 < a1) (h1 : (0 : Int) ≤ a0) (h2 : a1 ≤ 60) : ((0 : Int) ≤ a0) ∧ (a0 ≤ 59) := by omega
theorem oz507 {a0 a1 a2 : Int} (h0 : a0 = a1 + a2) (h1 : a2 = 1) : (60 - a0) < (60 - a1) := by omega
theorem oz508 {a0 a1 : Int} (h0 : a0 < a1) (h1 : a1 ≤ 60) : (1 : Int) ≤ (60 - a0) := by omega
theorem oz509 {a0 a1 : Int} (h0 : a0 = (a1 % 10)) (h1 : (a1 % 10) ≤ 5) : ((0 : Int) ≤ a0) ∧ (a0 ≤ 5) := by omega
theorem oz510 {a0 a1 a2 : Int} (h0 : a0 ≠ a1) (h1 : a0 ≠ a2) (h2 : a0 ≤ a1) (h3 : a2 ≤ a0) (h4 : a1 = 1) (h5 : a2 = 0) : False := by omega
theorem oz511 {a0 a1 : Int} (h0 : a0 = a1) (h1 : a0 ≠ a1) (h2 : a0 ≤ a1) (h3 : a1 = 1) : False := by omega
theorem oz512 {a0 a1 : Int} (h0 : a0 < a1) (h1 : a1 ≤ 8) : a0 ≤ 7 := by omega
theorem oz513 {a0 a1 : Int} (h0 : a0 < a1) (h1 : a1 ≤ 8) : a0 ≤ 8 := by omega
theorem oz514 {a0 a1 a2 : Int} (h0 : a0 < a1) (h1 : a2 ≤ a0) (h2 : a1 ≤ 21) (h3 : a2 = 0) : ((0 : Int) ≤ a0) ∧ (a0 ≤ 20) := by omega
theorem oz515 {a0 a1 a2 : Int} (h0 : a0 = a1) (h1 : a0 = a2) (h2 : a1 = 1) (h3 : a2 = 0) : False := by omega
theorem oz516 {a0 a1 : Int} (h0 : ((-1) : Int) ≤ a0) (h1 : a1 = (-1)) : (-2147483648 : Int) ≤ a0 + a1 := by omega
theorem oz517 {a0 a1 : Int} (h0 : a0 ≤ 2147483647) (h1 : a1 = (-1)) : a0 + a1 ≤ 2147483647 := by omega
theorem oz518 {a0 a1 a2 a3 : Int} (h0 : a0 ≤ a1) (h1 : a2 = a1 + a3) (h2 : a0 = 0) (h3 : a3 = (-1)) : ((-1) : Int) ≤ a2 := by omega
theorem oz519 {a0 a1 a2 : Int} (h0 : a0 = a1 + a2) (h1 : a2 = (-1)) : (a0 + 1) < (a1 + 1) := by omega
theorem oz520 {a0 a1 : Int} (h0 : a0 ≤ a1) (h1 : a0 = 0) : (1 : Int) ≤ (a1 + 1) := by omega
theorem oz521 {a0 : Int} (h0 : a0 = 9) : ((-1) : Int) ≤ a0 := by omega
theorem oz522 {a0 a1 a2 : Int} (h0 : a0 ≤ a1) (h1 : a2 ≤ 8) (h2 : a1 < a2) (h3 : a0 = 0) : ((0 : Int) ≤ a1) ∧ (a1 ≤ 7) := by omega
theorem oz523 {a0 a1 : Int} (h0 : a0 < a1) (h1 : a1 = a0) (h2 : a0 = 1) : False := by omega
theorem oz524 {a0 a1 a2 : Int} (h0 : a0 < a1) (h1 : a1 = a2) (h2 : a0 = 1) (h3 : a2 = 0) : False := by omega
theorem oz525 {a0 a1 : Int} (h0 : a0 = a1) (h1 : a0 ≠ a1) (h2 : a1 ≤ a0) (h3 : a1 = 0) : False := by omega
theorem oz526 {a0 : Int} (h0 : (1 : Int) ≤ a0) : (1 : Int) ≤ a0 := by omega
theorem oz527 {a0 : Int} (h0 : a0 ≤ 5) : a0 ≤ 5 := by omega
theorem oz528 {a0 a1 : Int} (h0 : a0 < a1) (h1 : a1 = 6) : a0 ≤ 5 := by omega
theorem oz529 {a0 a1 a2 : Int} (h0 : a0 < a1) (h1 : a1 = 6) (h2 : a2 = 1) : a0 + a2 ≤ 2147483647 := by omega
theorem oz530 {a0 a1 a2 : Int} (h0 : a0 = a1 + a2) (h1 : a2 = 1) : (6 - a0) < (6 - a1) := by omega
theorem oz531 {a0 a1 : Int} (h0 : a0 < a1) (h1 : a1 = 6) : (1 : Int) ≤ (6 - a0) := by omega
theorem oz532 {a0 a1 : Int} (h0 : a0 < a1) (h1 : a1 = 6) : a0 ≤ 8 := by omega
theorem oz533 {a0 a1 a2 : Int} (h0 : a0 = a1) (h1 : a0 = a2) (h2 : a1 = 0) (h3 : a2 = 1) : False := by omega
theorem oz534 {a0 a1 a2 : Int} (h0 : a0 = a1) (h1 : a2 < a0) (h2 : a1 = 0) (h3 : a2 = 1) : False := by omega
theorem oz535 {a0 a1 a2 : Int} (h0 : a0 ≤ a1) (h1 : a2 = (a1 / 100)) (h2 : a0 = 0) : (0 : Int) ≤ a2 := by omega
theorem oz536 {a0 a1 : Int} (h0 : a0 = a1) (h1 : a0 ≠ a1) (h2 : a1 = (-1)) : False := by omega
theorem oz537 {a0 a1 a2 a3 : Int} (h0 : a0 < a1) (h1 : a1 ≤ a2) (h2 : a2 = 30) (h3 : a3 = 1) : a0 + a3 ≤ 2147483647 := by omega
theorem oz538 {a0 a1 a2 : Int} (h0 : a0 < a1) (h1 : a1 ≤ a2) (h2 : a2 = 30) : (1 : Int) ≤ (31 - a0) := by omega
theorem oz539 {a0 a1 a2 : Int} (h0 : a0 < a1) (h1 : a2 = a1) (h2 : a0 = 0) : a2 ≠ 0 := by omega
theorem oz540 {a0 a1 a2 : Int} (h0 : a0 < a1) (h1 : a2 = a1) (h2 : a0 = 0) : (1 : Int) ≤ a2 := by omega
theorem oz541 {a0 a1 a2 a3 : Int} (h0 : a0 < a1) (h1 : a1 = (a2 % 100)) (h2 : a3 = 1) : a0 + a3 ≤ 2147483647 := by omega
theorem oz542 {a0 a1 a2 : Int} (h0 : a0 = a1 + a2) (h1 : a2 = 1) : (100 - a0) < (100 - a1) := by omega
theorem oz543 {a0 a1 a2 : Int} (h0 : a0 < a1) (h1 : a1 = (a2 % 100)) : (1 : Int) ≤ (100 - a0) := by omega
theorem oz544 {a0 a1 a2 a3 : Int} (h0 : a0 < a1) (h1 : a2 = a1) (h2 : a3 = a2) (h3 : a0 = 0) : a3 ≠ 0 := by omega
theorem oz545 {a0 a1 a2 a3 : Int} (h0 : a0 < a1) (h1 : a2 = a1) (h2 : a3 = a2) (h3 : a0 = 0) : (1 : Int) ≤ a3 := by omega
theorem oz546 {a0 a1 a2 a3 a4 : Int} (h0 : a0 ≤ a1) (h1 : a0 = a2) (h2 : a2 = a3) (h3 : (0 : Int) ≤ a4) (h4 : a4 < a3) (h5 : a1 = 0) : False := by omega
theorem oz547 {a0 : Int} (h0 : a0 = 0) : a0 < 5 := by omega
theorem oz548 {a0 : Int} (h0 : a0 = 1) : a0 < 5 := by omega
theorem oz549 {a0 : Int} (h0 : a0 = 2) : a0 < 5 := by omega
theorem oz550 {a0 : Int} (h0 : a0 = 3) : a0 < 5 := by omega
theorem oz551 {a0 a1 : Int} (h0 : a0 ≤ a1) : (-2147483648 : Int) ≤ a1 - a0 := by omega
theorem oz552 {a0 a1 a2 : Int} (h0 : a0 ≤ 2147483647) (h1 : a1 ≤ a2) (h2 : a1 = 1) : a0 - a2 ≤ 2147483647 := by omega
theorem oz553 {a0 a1 a2 : Int} (h0 : a0 ≤ 8) (h1 : a1 < a0) : a1 = 18 → (0 : Int) ≤ a2 ∧ a2 ≤ 5 := by omega
theorem oz554 {a0 a1 a2 : Int} (h0 : a0 ≤ 8) (h1 : a1 < a0) : 19 ≤ a1 → a1 ≤ 24 → (0 : Int) ≤ a2 ∧ a2 ≤ 7 := by omega
theorem oz555 {a0 : Int} (h0 : a0 = 4) : a0 < 5 := by omega
theorem oz556 {a0 a1 : Int} (h0 : a0 ≠ a1) : a0 ≠ a1 := by omega
theorem oz557 {a0 a1 : Int} (h0 : a0 ≤ a1) (h1 : a1 = 4) : a0 < 5 := by omega
theorem oz558 {a0 : Int} (h0 : a0 = 1) : a0 ≤ 1 := by omega
theorem oz559 {a0 : Int} (h0 : a0 ≤ 8) : a0 ≤ 8 := by omega
def w167_116 : kW := ([], [118], [], [])
def w167_116_L24 : kW := ([], [118], [], [])
set_option maxRecDepth 100000 in
theorem kc167_116 {i : Nat → Int32} {a : Nat → List Int32} {q : Nat → List Int64} {r : Nat → Nat} (hI : kI i a q) (hr : kr r)  : km 1 167 [.ref 116] (ks i a q r) (kVN w167_116 i a q r (fun i1 a1 q1 r1 => True)) := by
  have hG := kG_self w167_116 hI hr
  refine km_ofN (q := (mi_h167, mi_c167)) rfl (by decide) (Nat.le_of_ble_eq_true rfl) ?_
  intro P hP
  refine ft_go mi_k167 7 14 [(0, .ref 116)] [.int 8, .ref 118, .int 99, .int 8, .ref 118] i a q r (by rfl) ?_
  refine ko_iald3 mi_k167.1 (n := 31) (c := 31) (ax := (0, 0, 0, 0, 0)) (mi_k167.2 _ _ (by rfl)) (by rfl) (ksG118 _ _ _ _) (hG.I.2.1 118) rfl (oz85 kn8) (oz86 kn8) ?_
  have b1 : ((-2147483648 : Int) ≤ ((a 118).getD (8 : Int32).toNatClampNeg 0).toInt) ∧ (((a 118).getD (8 : Int32).toNatClampNeg 0).toInt ≤ 2147483647) := kd_bd ((a 118).getD (8 : Int32).toNatClampNeg 0)
  refine ft_go mi_k167 2 17 [(0, .ref 116)] [.int (((a 118).getD (8 : Int32).toNatClampNeg 0) + 1), .int 99, .int 8, .ref 118] i a q r (by rfl) ?_
  have m3 : (((bif decide ((((a 118).getD (8 : Int32).toNatClampNeg 0) + 1) < 99) then (((a 118).getD (8 : Int32).toNatClampNeg 0) + 1) else 99).toInt ≤ (99 : Int32).toInt) ∧ ((bif decide ((((a 118).getD (8 : Int32).toNatClampNeg 0) + 1) < 99) then (((a 118).getD (8 : Int32).toNatClampNeg 0) + 1) else 99).toInt ≤ (((a 118).getD (8 : Int32).toNatClampNeg 0) + 1).toInt)) ∧ ((bif decide ((((a 118).getD (8 : Int32).toNatClampNeg 0) + 1) < 99) then (((a 118).getD (8 : Int32).toNatClampNeg 0) + 1) else 99).toInt = (99 : Int32).toInt ∨ (bif decide ((((a 118).getD (8 : Int32).toNatClampNeg 0) + 1) < 99) then (((a 118).getD (8 : Int32).toNatClampNeg 0) + 1) else 99).toInt = (((a 118).getD (8 : Int32).toNatClampNeg 0) + 1).toInt) := kd_min
  refine ft_go mi_k167 1 20 [(0, .ref 116)] [.int (bif decide ((((a 118).getD (8 : Int32).toNatClampNeg 0) + 1) < 99) then (((a 118).getD (8 : Int32).toNatClampNeg 0) + 1) else 99), .int 8, .ref 118] i a q r (by rfl) ?_
  generalize (bif decide ((((a 118).getD (8 : Int32).toNatClampNeg 0) + 1) < 99) then (((a 118).getD (8 : Int32).toNatClampNeg 0) + 1) else 99) = m2 at m3 ⊢
  refine ko_iast3 mi_k167.1 (n := 31) (c := 31) (ax := (0, 0, 0, 0, 0)) (mi_k167.2 _ _ (by rfl)) (by rfl) (ksG118 _ _ _ _) (ksA118 _ _ _ _) (hG.I.2.1 118) rfl (oz85 kn8) (oz86 kn8) ?_
  intro a4 ea4 fa4
  have hJ4 := kG_a3 hG 118 rfl ea4 fa4 (kE_nset (p := 118) (by decide) (oz85 kn8) (oz98 kn8) (oz99 kn8))
  refine ft_go mi_k167 2 24 [(1, .int 9), (0, .ref 116)] [] i a4 q r (by rfl) ?_
  have lp5 : ∀ (nz : Nat) (i5 : Nat → Int32) (a5 : Nat → List Int32) (q5 : Nat → List Int64) (r5 : Nat → Nat) (l1_5 : Int32), kG w167_116_L24 i a4 q r i5 a5 q5 r5 → (9 : Int) ≤ l1_5.toInt → ((18 - l1_5.toInt)).toNat < nz → ko 1 (mi_h167, mi_c167) P (24, [(1, .int l1_5), (0, .ref 116)], [], (0, 0), ks i5 a5 q5 r5) := by
    intro nz
    induction nz with
    | zero =>
      intro _ _ _ _ _ _ _ hm
      exact absurd hm (Nat.not_lt_zero _)
    | succ nz ih5 =>
      intro i5 a5 q5 r5 l1_5 hL5 p5_0 hm5
      refine ft_go mi_k167 2 27 [(1, .int l1_5), (0, .ref 116)] [.int 18, .int l1_5] i5 a5 q5 r5 (by rfl) ?_
      refine ft_if mi_k167 (decide (18 ≤ l1_5)) 43 30 [(1, .int l1_5), (0, .ref 116)] [] (by rfl) (fun c => ?_) (fun c => ?_)
      ·
        have c6 : (18 : Int32).toInt ≤ l1_5.toInt := kd_le c; clear c
        have hG7 := kG_call hJ4 hL5 (by decide +kernel)
        exact ft_ret mi_k167 (by rfl) (hP  _ _ _ _ hG7 trivial)
      ·
        have c8 : l1_5.toInt < (18 : Int32).toInt := kd_leF c; clear c
        refine ft_go mi_k167 4 36 [(1, .int l1_5), (0, .ref 116)] [.int 0, .int l1_5, .ref 118] i5 a5 q5 r5 (by rfl) ?_
        refine ko_iast3 mi_k167.1 (n := 31) (c := 31) (ax := (0, 0, 0, 0, 0)) (mi_k167.2 _ _ (by rfl)) (by rfl) (ksG118 _ _ _ _) (ksA118 _ _ _ _) (hL5.I.2.1 118) rfl (oz392 p5_0) (oz393 c8 kn18) ?_
        intro a9 ea9 fa9
        have hJ9 := kG_a3 hL5 118 rfl ea9 fa9 (kE_nset (p := 118) (by decide) (oz392 p5_0) (oz394 c8 kn18 kn0) (oz395 c8 kn18 kn0))
        have s10 : (l1_5 + 1).toInt = l1_5.toInt + (1 : Int32).toInt := kd_add (oz396 p5_0 kn1) (oz397 c8 kn18 kn1)
        refine ft_go mi_k167 2 24 [(1, .int (l1_5 + 1)), (0, .ref 116)] [] i5 a9 q5 r5 (by rfl) ?_
        exact ih5 _ _ _ _ _ hJ9 (oz398 p5_0 s10 kn1) (kj_meas (oz399 s10 kn1) (oz400 c8 kn18) hm5)
  exact lp5 _ _ _ _ _ _ (kG_self _ hJ4.I hJ4.R) (oz401 kn9) (Nat.lt_succ_self _)
def w177_116 : kW := ([7464, 7465, 7466, 7467, 7469], [118, 128, 129, 139, 141, 142, 143, 144, 145], [], [])
def w177_116_L59 : kW := ([7464, 7465, 7466, 7467], [118, 128, 129, 141, 143, 144, 145], [], [])
set_option maxRecDepth 100000 in
theorem kc177_116 {i : Nat → Int32} {a : Nat → List Int32} {q : Nat → List Int64} {r : Nat → Nat} (hI : kI i a q) (hr : kr r) (x1 : Int32) (x2 : Int32) (x3 : Int32) (hE_code : kCode i a) : km 13 177 [.ref 116, .int x1, .int x2, .int x3] (ks i a q r) (kVI w177_116 i a q r (fun v i1 a1 q1 r1 => True)) := by
  have hG := kG_self w177_116 hI hr
  refine km_ofI (q := (mi_h177, mi_c177)) rfl (by decide) (Nat.le_of_ble_eq_true rfl) ?_
  intro P hP
  refine ft_go mi_k177 1 1 [(0, .ref 116), (1, .int x1), (2, .int x2), (3, .int x3)] [.int x1] i a q r (by rfl) ?_
  refine ko_callPI mi_k177.1 (pc := 1) (ls := [(0, .ref 116), (1, .int x1), (2, .int x2), (3, .int x3)]) (st := [.int x1]) (h := ks i a q r) (i := (.invokestatic 127, 3, 133, 0, 9, 0, 382)) (mi_k177.2 _ _ (by rfl)) (ft_invS mi_pq133 (by rfl)) (cy := mi_c133) mi_pq133 rfl (kc133 hG.I hG.R x1) (by decide) ?_
  intro vg1 hg1
  rcases hg1 with ⟨eg1, hg1⟩ | ⟨eg1, hg1⟩
  ·
    subst eg1
    have z2 : ((0 : Int) ≤ x1.toInt) ∧ (x1.toInt ≤ 5) := hg1
    refine ft_go mi_k177 4 11 [(0, .ref 116), (1, .int x1), (2, .int x2), (3, .int x3)] [.int 20, .int 0, .int x2] i a q r (by rfl) ?_
    refine ko_callPI mi_k177.1 (pc := 11) (ls := [(0, .ref 116), (1, .int x1), (2, .int x2), (3, .int x3)]) (st := [.int 20, .int 0, .int x2]) (h := ks i a q r) (i := (.invokestatic 119, 3, 131, 0, 9, 0, 379)) (mi_k177.2 _ _ (by rfl)) (ft_invS mi_pq131 (by rfl)) (cy := mi_c131) mi_pq131 rfl (kc131 hG.I hG.R x2 0 20) (by decide) ?_
    intro vg3 hg3
    rcases hg3 with ⟨eg3, hg3⟩ | ⟨eg3, hg3⟩
    ·
      subst eg3
      have z4 : ((0 : Int32).toInt ≤ x2.toInt) ∧ (x2.toInt ≤ (20 : Int32).toInt) := hg3
      refine ft_go mi_k177 3 19 [(0, .ref 116), (1, .int x1), (2, .int x2), (3, .int x3)] [.int (-1), .int x3] i a q r (by rfl) ?_
      refine ft_if mi_k177 (x3 == (-1)) 32 22 [(0, .ref 116), (1, .int x1), (2, .int x2), (3, .int x3)] [] (by rfl) (fun c => ?_) (fun c => ?_)
      ·
        have c5 : x3.toInt = ((-1) : Int32).toInt := kd_eq c; clear c
        refine ft_go mi_k177 2 34 [(0, .ref 116), (1, .int x1), (2, .int x2), (3, .int x3)] [.int x1, .ref 116] i a q r (by rfl) ?_
        refine ko_callPI mi_k177.1 (pc := 34) (ls := [(0, .ref 116), (1, .int x1), (2, .int x2), (3, .int x3)]) (st := [.int x1, .ref 116]) (h := ks i a q r) (i := (.invokevirtual 276, 3, 173, 0, 9, 0, 410)) (mi_k177.2 _ _ (by rfl)) (ft_invS mi_pq173 (by rfl)) (cy := mi_c173) mi_pq173 rfl (kc173_116 hG.I hG.R x1 (oz35 z2.1 z2.2)) (by decide) ?_
        intro vg6 hg6
        have z7 : (vg6.toInt < 0) ∨ (vg6.toInt = 0) := hg6
        refine ft_go mi_k177 2 41 [(4, .int vg6), (0, .ref 116), (1, .int x1), (2, .int x2), (3, .int x3)] [.int vg6] i a q r (by rfl) ?_
        refine ft_if mi_k177 (decide (0 ≤ vg6)) 47 44 [(4, .int vg6), (0, .ref 116), (1, .int x1), (2, .int x2), (3, .int x3)] [] (by rfl) (fun c => ?_) (fun c => ?_)
        ·
          have c8 : (0 : Int32).toInt ≤ vg6.toInt := kd_le c; clear c
          refine ft_go mi_k177 2 49 [(4, .int vg6), (0, .ref 116), (1, .int x1), (2, .int x2), (3, .int x3)] [.int x1, .ref 116] i a q r (by rfl) ?_
          refine ko_callN mi_k177.1 (pc := 49) (ls := [(4, .int vg6), (0, .ref 116), (1, .int x1), (2, .int x2), (3, .int x3)]) (st := [.int x1, .ref 116]) (h := ks i a q r) (i := (.invokevirtual 279, 3, 174, 0, 9, 0, 411)) (mi_k177.2 _ _ (by rfl)) (ft_invS mi_pq174 (by rfl)) (cy := mi_c174) mi_pq174 rfl (kc174_116 hG.I hG.R x1 (oz35 z2.1 z2.2)) (by decide) ?_
          intro ig9 ag9 qg9 rg9 kg9 hg9
          have hGg9 := kG_call hG kg9 (by decide +kernel)
          have fig9_7469 : ((0 : Int) ≤ (ig9 7469).toInt) ∧ ((ig9 7469).toInt ≤ 21) := hGg9.I.1 7469
          have z10 : (ig9 7469).toInt ≤ 20 := hg9
          refine ft_go mi_k177 1 53 [(4, .int vg6), (0, .ref 116), (1, .int x1), (2, .int x2), (3, .int x3)] [.ref 116] ig9 ag9 qg9 rg9 (by rfl) ?_
          refine ko_callN mi_k177.1 (pc := 53) (ls := [(4, .int vg6), (0, .ref 116), (1, .int x1), (2, .int x2), (3, .int x3)]) (st := [.ref 116]) (h := ks ig9 ag9 qg9 rg9) (i := (.invokevirtual 267, 3, 171, 0, 9, 0, 412)) (mi_k177.2 _ _ (by rfl)) (ft_invS mi_pq171 (by rfl)) (cy := mi_c171) mi_pq171 rfl (kc171_116 hGg9.I hGg9.R ) (by decide) ?_
          intro ig11 ag11 qg11 rg11 kg11 hg11
          have hGg11 := kG_call hGg9 kg11 (by decide +kernel)
          refine ft_go mi_k177 2 59 [(5, .int 0), (4, .int vg6), (0, .ref 116), (1, .int x1), (2, .int x2), (3, .int x3)] [] ig11 ag11 qg11 rg11 (by rfl) ?_
          have lp12 : ∀ (nz : Nat) (i12 : Nat → Int32) (a12 : Nat → List Int32) (q12 : Nat → List Int64) (r12 : Nat → Nat) (l5_12 : Int32), kG w177_116_L59 ig11 ag11 qg11 rg11 i12 a12 q12 r12 → (0 : Int) ≤ l5_12.toInt → ((x2.toInt - l5_12.toInt)).toNat < nz → ko 13 (mi_h177, mi_c177) P (59, [(5, .int l5_12), (4, .int vg6), (0, .ref 116), (1, .int x1), (2, .int x2), (3, .int x3)], [], (0, 0), ks i12 a12 q12 r12) := by
            intro nz
            induction nz with
            | zero =>
              intro _ _ _ _ _ _ _ hm
              exact absurd hm (Nat.not_lt_zero _)
            | succ nz ih12 =>
              intro i12 a12 q12 r12 l5_12 hL12 p12_0 hm12
              refine ft_go mi_k177 2 62 [(5, .int l5_12), (4, .int vg6), (0, .ref 116), (1, .int x1), (2, .int x2), (3, .int x3)] [.int x2, .int l5_12] i12 a12 q12 r12 (by rfl) ?_
              refine ft_if mi_k177 (decide (x2 ≤ l5_12)) 84 65 [(5, .int l5_12), (4, .int vg6), (0, .ref 116), (1, .int x1), (2, .int x2), (3, .int x3)] [] (by rfl) (fun c => ?_) (fun c => ?_)
              ·
                have c13 : x2.toInt ≤ l5_12.toInt := kd_le c; clear c
                have hG14 := kG_call hGg11 hL12 (by decide +kernel)
                refine ft_go mi_k177 2 86 [(5, .int l5_12), (4, .int vg6), (0, .ref 116), (1, .int x1), (2, .int x2), (3, .int x3)] [.int (-1), .int x3] i12 a12 q12 r12 (by rfl) ?_
                refine ft_if mi_k177 (x3 != (-1)) 96 89 [(5, .int l5_12), (4, .int vg6), (0, .ref 116), (1, .int x1), (2, .int x2), (3, .int x3)] [] (by rfl) (fun c => ?_) (fun c => ?_)
                ·
                  have c15 : x3.toInt ≠ ((-1) : Int32).toInt := kd_ne c; clear c
                  exact (oz390 c15 c5 knm1).elim
                ·
                  have c16 : x3.toInt = ((-1) : Int32).toInt := kd_neF c; clear c
                  refine ft_go mi_k177 8 110 [(5, .int (i12 7467)), (4, .int vg6), (0, .ref 116), (1, .int x1), (2, .int x2), (3, .int x3)] [.int 0, .ref 139, .ref 116] i12 a12 q12 r12 (by rfl) ?_
                  refine ko_callN mi_k177.1 (pc := 110) (ls := [(5, .int (i12 7467)), (4, .int vg6), (0, .ref 116), (1, .int x1), (2, .int x2), (3, .int x3)]) (st := [.int 0, .ref 139, .ref 116]) (h := ks i12 a12 q12 r12) (i := (.invokevirtual 273, 3, 169, 0, 9, 0, 423)) (mi_k177.2 _ _ (by rfl)) (ft_invS mi_pq169 (by rfl)) (cy := mi_c169) mi_pq169 rfl (kc169_116_139 hG14.I hG14.R 0 (oz236 kn0)) (by decide) ?_
                  intro ig17 ag17 qg17 rg17 kg17 hg17
                  have hGg17 := kG_call hG14 kg17 (by decide +kernel)
                  refine ft_go mi_k177 1 115 [(5, .int (i12 7467)), (4, .int vg6), (0, .ref 116), (1, .int x1), (2, .int x2), (3, .int x3)] [.int (i12 7467)] ig17 ag17 qg17 rg17 (by rfl) ?_
                  exact ft_ret mi_k177 (by rfl) (hP (i12 7467) _ _ _ _ hGg17 trivial)
              ·
                have c18 : l5_12.toInt < x2.toInt := kd_leF c; clear c
                refine ft_go mi_k177 1 67 [(5, .int l5_12), (4, .int vg6), (0, .ref 116), (1, .int x1), (2, .int x2), (3, .int x3)] [.int l5_12] i12 a12 q12 r12 (by rfl) ?_
                refine ft_if mi_k177 (decide (l5_12 ≤ 0)) 74 70 [(5, .int l5_12), (4, .int vg6), (0, .ref 116), (1, .int x1), (2, .int x2), (3, .int x3)] [] (by rfl) (fun c => ?_) (fun c => ?_)
                ·
                  have c19 : l5_12.toInt ≤ (0 : Int32).toInt := kd_le c; clear c
                  refine ft_go mi_k177 1 75 [(5, .int l5_12), (4, .int vg6), (0, .ref 116), (1, .int x1), (2, .int x2), (3, .int x3)] [.ref 116] i12 a12 q12 r12 (by rfl) ?_
                  have hG20 := kG_call hGg11 hL12 (by decide +kernel)
                  refine ko_callN mi_k177.1 (pc := 75) (ls := [(5, .int l5_12), (4, .int vg6), (0, .ref 116), (1, .int x1), (2, .int x2), (3, .int x3)]) (st := [.ref 116]) (h := ks i12 a12 q12 r12) (i := (.invokevirtual 270, 3, 170, 0, 9, 0, 414)) (mi_k177.2 _ _ (by rfl)) (ft_invS mi_pq170 (by rfl)) (cy := mi_c170) mi_pq170 rfl (kc170_116 hL12.I hL12.R (kCode_of (i1 := i12) hE_code (hG20.fi 7432 rfl) (hG20.fa 120 rfl) (hG20.fa 121 rfl) (hG20.fa 122 rfl) (hG20.fa 123 rfl))) (by decide) ?_
                  intro ig21 ag21 qg21 rg21 kg21 hg21
                  have hGg21 := kG_call hL12 kg21 (by decide +kernel)
                  have s22 : (l5_12 + 1).toInt = l5_12.toInt + (1 : Int32).toInt := kd_add (oz12 p12_0 kn1) (oz391 c19 kn0 kn1)
                  refine ft_go mi_k177 2 59 [(5, .int (l5_12 + 1)), (4, .int vg6), (0, .ref 116), (1, .int x1), (2, .int x2), (3, .int x3)] [] ig21 ag21 qg21 rg21 (by rfl) ?_
                  exact ih12 _ _ _ _ _ hGg21 (oz14 p12_0 s22 kn1) (kj_meas (oz44 s22 kn1) (oz45 c18) hm12)
                ·
                  have c23 : (0 : Int32).toInt < l5_12.toInt := kd_leF c; clear c
                  refine ft_go mi_k177 1 71 [(5, .int l5_12), (4, .int vg6), (0, .ref 116), (1, .int x1), (2, .int x2), (3, .int x3)] [.ref 116] i12 a12 q12 r12 (by rfl) ?_
                  refine ko_callN mi_k177.1 (pc := 71) (ls := [(5, .int l5_12), (4, .int vg6), (0, .ref 116), (1, .int x1), (2, .int x2), (3, .int x3)]) (st := [.ref 116]) (h := ks i12 a12 q12 r12) (i := (.invokevirtual 282, 3, 167, 0, 9, 0, 426)) (mi_k177.2 _ _ (by rfl)) (ft_invS mi_pq167 (by rfl)) (cy := mi_c167) mi_pq167 rfl (kc167_116 hL12.I hL12.R ) (by decide) ?_
                  intro ig24 ag24 qg24 rg24 kg24 hg24
                  have hGg24 := kG_call hL12 kg24 (by decide +kernel)
                  refine ft_go mi_k177 1 75 [(5, .int l5_12), (4, .int vg6), (0, .ref 116), (1, .int x1), (2, .int x2), (3, .int x3)] [.ref 116] ig24 ag24 qg24 rg24 (by rfl) ?_
                  have hG25 := kG_call hGg11 hGg24 (by decide +kernel)
                  refine ko_callN mi_k177.1 (pc := 75) (ls := [(5, .int l5_12), (4, .int vg6), (0, .ref 116), (1, .int x1), (2, .int x2), (3, .int x3)]) (st := [.ref 116]) (h := ks ig24 ag24 qg24 rg24) (i := (.invokevirtual 270, 3, 170, 0, 9, 0, 414)) (mi_k177.2 _ _ (by rfl)) (ft_invS mi_pq170 (by rfl)) (cy := mi_c170) mi_pq170 rfl (kc170_116 hGg24.I hGg24.R (kCode_of (i1 := ig24) hE_code (hG25.fi 7432 rfl) (hG25.fa 120 rfl) (hG25.fa 121 rfl) (hG25.fa 122 rfl) (hG25.fa 123 rfl))) (by decide) ?_
                  intro ig26 ag26 qg26 rg26 kg26 hg26
                  have hGg26 := kG_call hGg24 kg26 (by decide +kernel)
                  have s27 : (l5_12 + 1).toInt = l5_12.toInt + (1 : Int32).toInt := kd_add (oz402 c23 kn0 kn1) (oz403 c18 z4.2 kn20 kn1)
                  refine ft_go mi_k177 2 59 [(5, .int (l5_12 + 1)), (4, .int vg6), (0, .ref 116), (1, .int x1), (2, .int x2), (3, .int x3)] [] ig26 ag26 qg26 rg26 (by rfl) ?_
                  exact ih12 _ _ _ _ _ hGg26 (oz404 c23 s27 kn0 kn1) (kj_meas (oz44 s27 kn1) (oz45 c18) hm12)
          exact lp12 _ _ _ _ _ _ (kG_self _ hGg11.I hGg11.R) (oz46 kn0) (Nat.lt_succ_self _)
        ·
          have c28 : vg6.toInt < (0 : Int32).toInt := kd_leF c; clear c
          refine ft_go mi_k177 1 46 [(4, .int vg6), (0, .ref 116), (1, .int x1), (2, .int x2), (3, .int x3)] [.int vg6] i a q r (by rfl) ?_
          exact ft_ret mi_k177 (by rfl) (hP vg6 _ _ _ _ hG trivial)
      ·
        have c29 : x3.toInt ≠ ((-1) : Int32).toInt := kd_eqF c; clear c
        refine ft_go mi_k177 2 24 [(0, .ref 116), (1, .int x1), (2, .int x2), (3, .int x3)] [.int x3, .ref 116] i a q r (by rfl) ?_
        refine ko_callPI mi_k177.1 (pc := 24) (ls := [(0, .ref 116), (1, .int x1), (2, .int x2), (3, .int x3)]) (st := [.int x3, .ref 116]) (h := ks i a q r) (i := (.invokevirtual 137, 3, 132, 0, 9, 0, 387)) (mi_k177.2 _ _ (by rfl)) (ft_invS mi_pq132 (by rfl)) (cy := mi_c132) mi_pq132 rfl (kc132_116 hG.I hG.R x3) (by decide) ?_
        intro vg30 hg30
        rcases hg30 with ⟨eg30, hg30⟩ | ⟨eg30, hg30⟩
        ·
          subst eg30
          have fi_7424 : ((0 : Int) ≤ (i 7424).toInt) ∧ ((i 7424).toInt ≤ 8) := hG.I.1 7424
          have z31 : ((0 : Int) ≤ x3.toInt) ∧ (x3.toInt < (i 7424).toInt) := hg30
          refine ft_go mi_k177 3 34 [(0, .ref 116), (1, .int x1), (2, .int x2), (3, .int x3)] [.int x1, .ref 116] i a q r (by rfl) ?_
          refine ko_callPI mi_k177.1 (pc := 34) (ls := [(0, .ref 116), (1, .int x1), (2, .int x2), (3, .int x3)]) (st := [.int x1, .ref 116]) (h := ks i a q r) (i := (.invokevirtual 276, 3, 173, 0, 9, 0, 410)) (mi_k177.2 _ _ (by rfl)) (ft_invS mi_pq173 (by rfl)) (cy := mi_c173) mi_pq173 rfl (kc173_116 hG.I hG.R x1 (oz35 z2.1 z2.2)) (by decide) ?_
          intro vg32 hg32
          have z33 : (vg32.toInt < 0) ∨ (vg32.toInt = 0) := hg32
          refine ft_go mi_k177 2 41 [(4, .int vg32), (0, .ref 116), (1, .int x1), (2, .int x2), (3, .int x3)] [.int vg32] i a q r (by rfl) ?_
          refine ft_if mi_k177 (decide (0 ≤ vg32)) 47 44 [(4, .int vg32), (0, .ref 116), (1, .int x1), (2, .int x2), (3, .int x3)] [] (by rfl) (fun c => ?_) (fun c => ?_)
          ·
            have c34 : (0 : Int32).toInt ≤ vg32.toInt := kd_le c; clear c
            refine ft_go mi_k177 2 49 [(4, .int vg32), (0, .ref 116), (1, .int x1), (2, .int x2), (3, .int x3)] [.int x1, .ref 116] i a q r (by rfl) ?_
            refine ko_callN mi_k177.1 (pc := 49) (ls := [(4, .int vg32), (0, .ref 116), (1, .int x1), (2, .int x2), (3, .int x3)]) (st := [.int x1, .ref 116]) (h := ks i a q r) (i := (.invokevirtual 279, 3, 174, 0, 9, 0, 411)) (mi_k177.2 _ _ (by rfl)) (ft_invS mi_pq174 (by rfl)) (cy := mi_c174) mi_pq174 rfl (kc174_116 hG.I hG.R x1 (oz35 z2.1 z2.2)) (by decide) ?_
            intro ig35 ag35 qg35 rg35 kg35 hg35
            have hGg35 := kG_call hG kg35 (by decide +kernel)
            have fig35_7469 : ((0 : Int) ≤ (ig35 7469).toInt) ∧ ((ig35 7469).toInt ≤ 21) := hGg35.I.1 7469
            have z36 : (ig35 7469).toInt ≤ 20 := hg35
            refine ft_go mi_k177 1 53 [(4, .int vg32), (0, .ref 116), (1, .int x1), (2, .int x2), (3, .int x3)] [.ref 116] ig35 ag35 qg35 rg35 (by rfl) ?_
            refine ko_callN mi_k177.1 (pc := 53) (ls := [(4, .int vg32), (0, .ref 116), (1, .int x1), (2, .int x2), (3, .int x3)]) (st := [.ref 116]) (h := ks ig35 ag35 qg35 rg35) (i := (.invokevirtual 267, 3, 171, 0, 9, 0, 412)) (mi_k177.2 _ _ (by rfl)) (ft_invS mi_pq171 (by rfl)) (cy := mi_c171) mi_pq171 rfl (kc171_116 hGg35.I hGg35.R ) (by decide) ?_
            intro ig37 ag37 qg37 rg37 kg37 hg37
            have hGg37 := kG_call hGg35 kg37 (by decide +kernel)
            refine ft_go mi_k177 2 59 [(5, .int 0), (4, .int vg32), (0, .ref 116), (1, .int x1), (2, .int x2), (3, .int x3)] [] ig37 ag37 qg37 rg37 (by rfl) ?_
            have lp38 : ∀ (nz : Nat) (i38 : Nat → Int32) (a38 : Nat → List Int32) (q38 : Nat → List Int64) (r38 : Nat → Nat) (l5_38 : Int32), kG w177_116_L59 ig37 ag37 qg37 rg37 i38 a38 q38 r38 → (0 : Int) ≤ l5_38.toInt → ((x2.toInt - l5_38.toInt)).toNat < nz → ko 13 (mi_h177, mi_c177) P (59, [(5, .int l5_38), (4, .int vg32), (0, .ref 116), (1, .int x1), (2, .int x2), (3, .int x3)], [], (0, 0), ks i38 a38 q38 r38) := by
              intro nz
              induction nz with
              | zero =>
                intro _ _ _ _ _ _ _ hm
                exact absurd hm (Nat.not_lt_zero _)
              | succ nz ih38 =>
                intro i38 a38 q38 r38 l5_38 hL38 p38_0 hm38
                refine ft_go mi_k177 2 62 [(5, .int l5_38), (4, .int vg32), (0, .ref 116), (1, .int x1), (2, .int x2), (3, .int x3)] [.int x2, .int l5_38] i38 a38 q38 r38 (by rfl) ?_
                refine ft_if mi_k177 (decide (x2 ≤ l5_38)) 84 65 [(5, .int l5_38), (4, .int vg32), (0, .ref 116), (1, .int x1), (2, .int x2), (3, .int x3)] [] (by rfl) (fun c => ?_) (fun c => ?_)
                ·
                  have c39 : x2.toInt ≤ l5_38.toInt := kd_le c; clear c
                  have hG40 := kG_call hGg37 hL38 (by decide +kernel)
                  refine ft_go mi_k177 2 86 [(5, .int l5_38), (4, .int vg32), (0, .ref 116), (1, .int x1), (2, .int x2), (3, .int x3)] [.int (-1), .int x3] i38 a38 q38 r38 (by rfl) ?_
                  refine ft_if mi_k177 (x3 != (-1)) 96 89 [(5, .int l5_38), (4, .int vg32), (0, .ref 116), (1, .int x1), (2, .int x2), (3, .int x3)] [] (by rfl) (fun c => ?_) (fun c => ?_)
                  ·
                    have c41 : x3.toInt ≠ ((-1) : Int32).toInt := kd_ne c; clear c
                    refine ft_go mi_k177 3 101 [(5, .int l5_38), (4, .int vg32), (0, .ref 116), (1, .int x1), (2, .int x2), (3, .int x3)] [.int x3, .ref 118] i38 a38 q38 r38 (by rfl) ?_
                    refine ko_iald3 mi_k177.1 (n := 31) (c := 31) (ax := (0, 0, 0, 0, 0)) (mi_k177.2 _ _ (by rfl)) (by rfl) (ksG118 _ _ _ _) (hG40.I.2.1 118) rfl (oz3 z31.1) (oz385 fi_7424.2 z31.2) ?_
                    have r42 : ((x3.toInt = 18 → (0 : Int) ≤ ((a38 118).getD x3.toNatClampNeg 0).toInt ∧ ((a38 118).getD x3.toNatClampNeg 0).toInt ≤ 5)) ∧ ((19 ≤ x3.toInt → x3.toInt ≤ 24 → (0 : Int) ≤ ((a38 118).getD x3.toNatClampNeg 0).toInt ∧ ((a38 118).getD x3.toNatClampNeg 0).toInt ≤ 7)) := kE_ncond (p := 118) hG40.I (by decide) (j := x3) (oz3 z31.1)
                    refine ft_go mi_k177 5 110 [(5, .int ((a38 118).getD x3.toNatClampNeg 0)), (4, .int vg32), (0, .ref 116), (1, .int x1), (2, .int x2), (3, .int x3)] [.int 0, .ref 139, .ref 116] i38 a38 q38 r38 (by rfl) ?_
                    refine ko_callN mi_k177.1 (pc := 110) (ls := [(5, .int ((a38 118).getD x3.toNatClampNeg 0)), (4, .int vg32), (0, .ref 116), (1, .int x1), (2, .int x2), (3, .int x3)]) (st := [.int 0, .ref 139, .ref 116]) (h := ks i38 a38 q38 r38) (i := (.invokevirtual 273, 3, 169, 0, 9, 0, 423)) (mi_k177.2 _ _ (by rfl)) (ft_invS mi_pq169 (by rfl)) (cy := mi_c169) mi_pq169 rfl (kc169_116_139 hG40.I hG40.R 0 (oz236 kn0)) (by decide) ?_
                    intro ig43 ag43 qg43 rg43 kg43 hg43
                    have hGg43 := kG_call hG40 kg43 (by decide +kernel)
                    refine ft_go mi_k177 1 115 [(5, .int ((a38 118).getD x3.toNatClampNeg 0)), (4, .int vg32), (0, .ref 116), (1, .int x1), (2, .int x2), (3, .int x3)] [.int ((a38 118).getD x3.toNatClampNeg 0)] ig43 ag43 qg43 rg43 (by rfl) ?_
                    exact ft_ret mi_k177 (by rfl) (hP ((a38 118).getD x3.toNatClampNeg 0) _ _ _ _ hGg43 trivial)
                  ·
                    have c44 : x3.toInt = ((-1) : Int32).toInt := kd_neF c; clear c
                    exact (oz405 c44 z31.1 knm1).elim
                ·
                  have c45 : l5_38.toInt < x2.toInt := kd_leF c; clear c
                  refine ft_go mi_k177 1 67 [(5, .int l5_38), (4, .int vg32), (0, .ref 116), (1, .int x1), (2, .int x2), (3, .int x3)] [.int l5_38] i38 a38 q38 r38 (by rfl) ?_
                  refine ft_if mi_k177 (decide (l5_38 ≤ 0)) 74 70 [(5, .int l5_38), (4, .int vg32), (0, .ref 116), (1, .int x1), (2, .int x2), (3, .int x3)] [] (by rfl) (fun c => ?_) (fun c => ?_)
                  ·
                    have c46 : l5_38.toInt ≤ (0 : Int32).toInt := kd_le c; clear c
                    refine ft_go mi_k177 1 75 [(5, .int l5_38), (4, .int vg32), (0, .ref 116), (1, .int x1), (2, .int x2), (3, .int x3)] [.ref 116] i38 a38 q38 r38 (by rfl) ?_
                    have hG47 := kG_call hGg37 hL38 (by decide +kernel)
                    refine ko_callN mi_k177.1 (pc := 75) (ls := [(5, .int l5_38), (4, .int vg32), (0, .ref 116), (1, .int x1), (2, .int x2), (3, .int x3)]) (st := [.ref 116]) (h := ks i38 a38 q38 r38) (i := (.invokevirtual 270, 3, 170, 0, 9, 0, 414)) (mi_k177.2 _ _ (by rfl)) (ft_invS mi_pq170 (by rfl)) (cy := mi_c170) mi_pq170 rfl (kc170_116 hL38.I hL38.R (kCode_of (i1 := i38) hE_code (hG47.fi 7432 rfl) (hG47.fa 120 rfl) (hG47.fa 121 rfl) (hG47.fa 122 rfl) (hG47.fa 123 rfl))) (by decide) ?_
                    intro ig48 ag48 qg48 rg48 kg48 hg48
                    have hGg48 := kG_call hL38 kg48 (by decide +kernel)
                    have s49 : (l5_38 + 1).toInt = l5_38.toInt + (1 : Int32).toInt := kd_add (oz12 p38_0 kn1) (oz391 c46 kn0 kn1)
                    refine ft_go mi_k177 2 59 [(5, .int (l5_38 + 1)), (4, .int vg32), (0, .ref 116), (1, .int x1), (2, .int x2), (3, .int x3)] [] ig48 ag48 qg48 rg48 (by rfl) ?_
                    exact ih38 _ _ _ _ _ hGg48 (oz14 p38_0 s49 kn1) (kj_meas (oz44 s49 kn1) (oz45 c45) hm38)
                  ·
                    have c50 : (0 : Int32).toInt < l5_38.toInt := kd_leF c; clear c
                    refine ft_go mi_k177 1 71 [(5, .int l5_38), (4, .int vg32), (0, .ref 116), (1, .int x1), (2, .int x2), (3, .int x3)] [.ref 116] i38 a38 q38 r38 (by rfl) ?_
                    refine ko_callN mi_k177.1 (pc := 71) (ls := [(5, .int l5_38), (4, .int vg32), (0, .ref 116), (1, .int x1), (2, .int x2), (3, .int x3)]) (st := [.ref 116]) (h := ks i38 a38 q38 r38) (i := (.invokevirtual 282, 3, 167, 0, 9, 0, 426)) (mi_k177.2 _ _ (by rfl)) (ft_invS mi_pq167 (by rfl)) (cy := mi_c167) mi_pq167 rfl (kc167_116 hL38.I hL38.R ) (by decide) ?_
                    intro ig51 ag51 qg51 rg51 kg51 hg51
                    have hGg51 := kG_call hL38 kg51 (by decide +kernel)
                    refine ft_go mi_k177 1 75 [(5, .int l5_38), (4, .int vg32), (0, .ref 116), (1, .int x1), (2, .int x2), (3, .int x3)] [.ref 116] ig51 ag51 qg51 rg51 (by rfl) ?_
                    have hG52 := kG_call hGg37 hGg51 (by decide +kernel)
                    refine ko_callN mi_k177.1 (pc := 75) (ls := [(5, .int l5_38), (4, .int vg32), (0, .ref 116), (1, .int x1), (2, .int x2), (3, .int x3)]) (st := [.ref 116]) (h := ks ig51 ag51 qg51 rg51) (i := (.invokevirtual 270, 3, 170, 0, 9, 0, 414)) (mi_k177.2 _ _ (by rfl)) (ft_invS mi_pq170 (by rfl)) (cy := mi_c170) mi_pq170 rfl (kc170_116 hGg51.I hGg51.R (kCode_of (i1 := ig51) hE_code (hG52.fi 7432 rfl) (hG52.fa 120 rfl) (hG52.fa 121 rfl) (hG52.fa 122 rfl) (hG52.fa 123 rfl))) (by decide) ?_
                    intro ig53 ag53 qg53 rg53 kg53 hg53
                    have hGg53 := kG_call hGg51 kg53 (by decide +kernel)
                    have s54 : (l5_38 + 1).toInt = l5_38.toInt + (1 : Int32).toInt := kd_add (oz402 c50 kn0 kn1) (oz403 c45 z4.2 kn20 kn1)
                    refine ft_go mi_k177 2 59 [(5, .int (l5_38 + 1)), (4, .int vg32), (0, .ref 116), (1, .int x1), (2, .int x2), (3, .int x3)] [] ig53 ag53 qg53 rg53 (by rfl) ?_
                    exact ih38 _ _ _ _ _ hGg53 (oz404 c50 s54 kn0 kn1) (kj_meas (oz44 s54 kn1) (oz45 c45) hm38)
            exact lp38 _ _ _ _ _ _ (kG_self _ hGg37.I hGg37.R) (oz46 kn0) (Nat.lt_succ_self _)
          ·
            have c55 : vg32.toInt < (0 : Int32).toInt := kd_leF c; clear c
            refine ft_go mi_k177 1 46 [(4, .int vg32), (0, .ref 116), (1, .int x1), (2, .int x2), (3, .int x3)] [.int vg32] i a q r (by rfl) ?_
            exact ft_ret mi_k177 (by rfl) (hP vg32 _ _ _ _ hG trivial)
        ·
          subst eg30
          have fi_7424 : ((0 : Int) ≤ (i 7424).toInt) ∧ ((i 7424).toInt ≤ 8) := hG.I.1 7424
          have z56 : ¬ (((0 : Int) ≤ x3.toInt) ∧ (x3.toInt < (i 7424).toInt)) := hg30
          refine ft_go mi_k177 2 31 [(0, .ref 116), (1, .int x1), (2, .int x2), (3, .int x3)] [.int (-1)] i a q r (by rfl) ?_
          exact ft_ret mi_k177 (by rfl) (hP (-1) _ _ _ _ hG trivial)
    ·
      subst eg3
      have z57 : ¬ (((0 : Int32).toInt ≤ x2.toInt) ∧ (x2.toInt ≤ (20 : Int32).toInt)) := hg3
      refine ft_go mi_k177 2 31 [(0, .ref 116), (1, .int x1), (2, .int x2), (3, .int x3)] [.int (-1)] i a q r (by rfl) ?_
      exact ft_ret mi_k177 (by rfl) (hP (-1) _ _ _ _ hG trivial)
  ·
    subst eg1
    have z58 : ¬ (((0 : Int) ≤ x1.toInt) ∧ (x1.toInt ≤ 5)) := hg1
    refine ft_go mi_k177 2 31 [(0, .ref 116), (1, .int x1), (2, .int x2), (3, .int x3)] [.int (-1)] i a q r (by rfl) ?_
    exact ft_ret mi_k177 (by rfl) (hP (-1) _ _ _ _ hG trivial)
def w178_116 : kW := ([7469], [142], [], [])
def w178_116_L5 : kW := ([], [142], [], [])
set_option maxRecDepth 100000 in
theorem kc178_116 {i : Nat → Int32} {a : Nat → List Int32} {q : Nat → List Int64} {r : Nat → Nat} (hI : kI i a q) (hr : kr r) (x1 : Int32) (x2 : Int32) (hp0 : ((0 : Int) ≤ x1.toInt) ∧ (x1.toInt ≤ (i 7469).toInt)) (hp1 : (i 7469).toInt ≤ 20) (hp2 : ((0 : Int) ≤ x2.toInt) ∧ (x2.toInt ≤ 7)) : km 1 178 [.ref 116, .int x1, .int x2] (ks i a q r) (kVN w178_116 i a q r (fun i1 a1 q1 r1 => (i1 7469).toInt = ((i 7469).toInt + 1))) := by
  have hG := kG_self w178_116 hI hr
  refine km_ofN (q := (mi_h178, mi_c178)) rfl (by decide) (Nat.le_of_ble_eq_true rfl) ?_
  intro P hP
  have fi_7469 : ((0 : Int) ≤ (i 7469).toInt) ∧ ((i 7469).toInt ≤ 21) := hG.I.1 7469
  refine ft_go mi_k178 3 5 [(3, .int (i 7469)), (0, .ref 116), (1, .int x1), (2, .int x2)] [] i a q r (by rfl) ?_
  have lp1 : ∀ (nz : Nat) (i1 : Nat → Int32) (a1 : Nat → List Int32) (q1 : Nat → List Int64) (r1 : Nat → Nat) (l3_1 : Int32), kG w178_116_L5 i a q r i1 a1 q1 r1 → l3_1.toInt ≤ (i1 7469).toInt → x1.toInt ≤ l3_1.toInt → ((l3_1.toInt - x1.toInt)).toNat < nz → ko 1 (mi_h178, mi_c178) P (5, [(3, .int l3_1), (0, .ref 116), (1, .int x1), (2, .int x2)], [], (0, 0), ks i1 a1 q1 r1) := by
    intro nz
    induction nz with
    | zero =>
      intro _ _ _ _ _ _ _ _ hm
      exact absurd hm (Nat.not_lt_zero _)
    | succ nz ih1 =>
      intro i1 a1 q1 r1 l3_1 hL1 p1_0 p1_1 hm1
      have fi1_7469 : ((0 : Int) ≤ (i1 7469).toInt) ∧ ((i1 7469).toInt ≤ 21) := hL1.I.1 7469
      have efi1_7469 : (i1 7469).toInt = (i 7469).toInt := hL1.ti 7469 rfl
      refine ft_go mi_k178 2 7 [(3, .int l3_1), (0, .ref 116), (1, .int x1), (2, .int x2)] [.int x1, .int l3_1] i1 a1 q1 r1 (by rfl) ?_
      refine ft_if mi_k178 (decide (l3_1 ≤ x1)) 30 10 [(3, .int l3_1), (0, .ref 116), (1, .int x1), (2, .int x2)] [] (by rfl) (fun c => ?_) (fun c => ?_)
      ·
        have c2 : l3_1.toInt ≤ x1.toInt := kd_le c; clear c
        have hG3 := kG_call hG hL1 (by decide +kernel)
        refine ft_go mi_k178 4 36 [(3, .int l3_1), (0, .ref 116), (1, .int x1), (2, .int x2)] [.int x2, .int x1, .ref 142] i1 a1 q1 r1 (by rfl) ?_
        refine ko_iast3 mi_k178.1 (n := 21) (c := 21) (ax := (0, 0, 0, 0, 0)) (mi_k178.2 _ _ (by rfl)) (by rfl) (ksG142 _ _ _ _) (ksA142 _ _ _ _) (hG3.I.2.1 142) rfl (oz3 hp0.1) (oz406 hp0.2 hp1) ?_
        intro a4 ea4 fa4
        have hJ4 := kG_a3 hG3 142 rfl ea4 fa4 ⟨(oz3 hp2.1), (oz407 hp2.2)⟩
        have s5 : ((i1 7469) + 1).toInt = (i1 7469).toInt + (1 : Int32).toInt := kd_add (oz12 fi1_7469.1 kn1) (oz215 fi1_7469.2 kn1)
        have hJ6 := kG_i hJ4 7469 rfl (v := ((i1 7469) + 1)) ⟨(oz14 fi1_7469.1 s5 kn1), (oz408 efi1_7469 hp1 s5 kn1)⟩
        refine ft_go mi_k178 6 47 [(3, .int l3_1), (0, .ref 116), (1, .int x1), (2, .int x2)] [] (ku i1 7469 ((i1 7469) + 1)) a4 q1 r1 (by rfl) ?_
        exact ft_ret mi_k178 (by rfl) (hP  _ _ _ _ hJ6 (oz409 efi1_7469 s5 kn1))
      ·
        have c7 : x1.toInt < l3_1.toInt := kd_leF c; clear c
        have s8 : (l3_1 - 1).toInt = l3_1.toInt - (1 : Int32).toInt := kd_sub (oz410 c7 hp0.1 kn1) (oz411 efi1_7469 hp1 p1_0 kn1)
        refine ft_go mi_k178 8 22 [(3, .int l3_1), (0, .ref 116), (1, .int x1), (2, .int x2)] [.int (l3_1 - 1), .ref 142, .int l3_1, .ref 142] i1 a1 q1 r1 (by rfl) ?_
        refine ko_iald3 mi_k178.1 (n := 21) (c := 21) (ax := (0, 0, 0, 0, 0)) (mi_k178.2 _ _ (by rfl)) (by rfl) (ksG142 _ _ _ _) (hL1.I.2.1 142) rfl (oz412 c7 hp0.1 s8 kn1) (oz413 efi1_7469 hp1 p1_0 s8 kn1) ?_
        have r9 : ((0 : Int) ≤ ((a1 142).getD (l3_1 - 1).toNatClampNeg 0).toInt) ∧ (((a1 142).getD (l3_1 - 1).toNatClampNeg 0).toInt ≤ 7) := hL1.I.2.2.1 142 ((l3_1 - 1).toNatClampNeg)
        refine ko_iast3 mi_k178.1 (n := 21) (c := 21) (ax := (0, 0, 0, 0, 0)) (mi_k178.2 _ _ (by rfl)) (by rfl) (ksG142 _ _ _ _) (ksA142 _ _ _ _) (hL1.I.2.1 142) rfl (oz414 c7 hp0.1) (oz415 efi1_7469 hp1 p1_0) ?_
        intro a10 ea10 fa10
        have hJ10 := kG_a3 hL1 142 rfl ea10 fa10 ⟨(oz3 r9.1), (oz407 r9.2)⟩
        have s11 : (l3_1 + (-1)).toInt = l3_1.toInt + ((-1) : Int32).toInt := kd_add (oz416 c7 hp0.1 knm1) (oz417 efi1_7469 hp1 p1_0 knm1)
        refine ft_go mi_k178 2 5 [(3, .int (l3_1 + (-1))), (0, .ref 116), (1, .int x1), (2, .int x2)] [] i1 a10 q1 r1 (by rfl) ?_
        exact ih1 _ _ _ _ _ hJ10 (oz418 p1_0 s11 knm1) (oz419 c7 s11 knm1) (kj_meas (oz420 s11 knm1) (oz45 c7) hm1)
  exact lp1 _ _ _ _ _ _ (kG_self _ hG.I hG.R) oz122 (oz173 hp0.2) (Nat.lt_succ_self _)
def w172_116 : kW := ([7464, 7465, 7466, 7467], [118, 128, 129, 139, 141, 143, 144, 145], [], [])
set_option maxRecDepth 100000 in
theorem kc172_116 {i : Nat → Int32} {a : Nat → List Int32} {q : Nat → List Int64} {r : Nat → Nat} (hI : kI i a q) (hr : kr r) (x1 : Int32) (hp0 : ((0 : Int) ≤ x1.toInt) ∧ (x1.toInt ≤ 7)) (hE_code : kCode i a) : km 13 172 [.ref 116, .int x1] (ks i a q r) (kVI w172_116 i a q r (fun v i1 a1 q1 r1 => True)) := by
  have hG := kG_self w172_116 hI hr
  refine km_ofI (q := (mi_h172, mi_c172)) rfl (by decide) (Nat.le_of_ble_eq_true rfl) ?_
  intro P hP
  refine ft_go mi_k172 1 1 [(0, .ref 116), (1, .int x1)] [.ref 116] i a q r (by rfl) ?_
  refine ko_callN mi_k172.1 (pc := 1) (ls := [(0, .ref 116), (1, .int x1)]) (st := [.ref 116]) (h := ks i a q r) (i := (.invokevirtual 267, 3, 171, 0, 9, 0, 412)) (mi_k172.2 _ _ (by rfl)) (ft_invS mi_pq171 (by rfl)) (cy := mi_c171) mi_pq171 rfl (kc171_116 hG.I hG.R ) (by decide) ?_
  intro ig1 ag1 qg1 rg1 kg1 hg1
  have hGg1 := kG_call hG kg1 (by decide +kernel)
  refine ft_go mi_k172 1 5 [(0, .ref 116), (1, .int x1)] [.ref 116] ig1 ag1 qg1 rg1 (by rfl) ?_
  refine ko_callN mi_k172.1 (pc := 5) (ls := [(0, .ref 116), (1, .int x1)]) (st := [.ref 116]) (h := ks ig1 ag1 qg1 rg1) (i := (.invokevirtual 270, 3, 170, 0, 9, 0, 414)) (mi_k172.2 _ _ (by rfl)) (ft_invS mi_pq170 (by rfl)) (cy := mi_c170) mi_pq170 rfl (kc170_116 hGg1.I hGg1.R (kCode_of (i1 := ig1) hE_code (hGg1.fi 7432 rfl) (hGg1.fa 120 rfl) (hGg1.fa 121 rfl) (hGg1.fa 122 rfl) (hGg1.fa 123 rfl))) (by decide) ?_
  intro ig2 ag2 qg2 rg2 kg2 hg2
  have hGg2 := kG_call hGg1 kg2 (by decide +kernel)
  refine ft_go mi_k172 3 13 [(0, .ref 116), (1, .int x1)] [.int x1, .ref 118] ig2 ag2 qg2 rg2 (by rfl) ?_
  refine ko_iald3 mi_k172.1 (n := 31) (c := 31) (ax := (0, 0, 0, 0, 0)) (mi_k172.2 _ _ (by rfl)) (by rfl) (ksG118 _ _ _ _) (hGg2.I.2.1 118) rfl (oz3 hp0.1) (oz65 hp0.2) ?_
  have r3 : ((x1.toInt = 18 → (0 : Int) ≤ ((ag2 118).getD x1.toNatClampNeg 0).toInt ∧ ((ag2 118).getD x1.toNatClampNeg 0).toInt ≤ 5)) ∧ ((19 ≤ x1.toInt → x1.toInt ≤ 24 → (0 : Int) ≤ ((ag2 118).getD x1.toNatClampNeg 0).toInt ∧ ((ag2 118).getD x1.toNatClampNeg 0).toInt ≤ 7)) := kE_ncond (p := 118) hGg2.I (by decide) (j := x1) (oz3 hp0.1)
  refine ft_go mi_k172 5 21 [(2, .int ((ag2 118).getD x1.toNatClampNeg 0)), (0, .ref 116), (1, .int x1)] [.int 0, .ref 139, .ref 116] ig2 ag2 qg2 rg2 (by rfl) ?_
  refine ko_callN mi_k172.1 (pc := 21) (ls := [(2, .int ((ag2 118).getD x1.toNatClampNeg 0)), (0, .ref 116), (1, .int x1)]) (st := [.int 0, .ref 139, .ref 116]) (h := ks ig2 ag2 qg2 rg2) (i := (.invokevirtual 273, 3, 169, 0, 9, 0, 423)) (mi_k172.2 _ _ (by rfl)) (ft_invS mi_pq169 (by rfl)) (cy := mi_c169) mi_pq169 rfl (kc169_116_139 hGg2.I hGg2.R 0 (oz236 kn0)) (by decide) ?_
  intro ig4 ag4 qg4 rg4 kg4 hg4
  have hGg4 := kG_call hGg2 kg4 (by decide +kernel)
  refine ft_go mi_k172 1 25 [(2, .int ((ag2 118).getD x1.toNatClampNeg 0)), (0, .ref 116), (1, .int x1)] [.int ((ag2 118).getD x1.toNatClampNeg 0)] ig4 ag4 qg4 rg4 (by rfl) ?_
  exact ft_ret mi_k172 (by rfl) (hP ((ag2 118).getD x1.toNatClampNeg 0) _ _ _ _ hGg4 trivial)
def w179_116 : kW := ([7469], [142], [], [])
def w179_116_L12 : kW := ([], [142], [], [])
set_option maxRecDepth 100000 in
theorem kc179_116 {i : Nat → Int32} {a : Nat → List Int32} {q : Nat → List Int64} {r : Nat → Nat} (hI : kI i a q) (hr : kr r) (x1 : Int32) (hp0 : (0 : Int) ≤ x1.toInt) (hp1 : (1 : Int) ≤ (i 7469).toInt) : km 1 179 [.ref 116, .int x1] (ks i a q r) (kVN w179_116 i a q r (fun i1 a1 q1 r1 => (i1 7469).toInt = ((i 7469).toInt - 1))) := by
  have hG := kG_self w179_116 hI hr
  refine km_ofN (q := (mi_h179, mi_c179)) rfl (by decide) (Nat.le_of_ble_eq_true rfl) ?_
  intro P hP
  have fi_7469 : ((0 : Int) ≤ (i 7469).toInt) ∧ ((i 7469).toInt ≤ 21) := hG.I.1 7469
  have s1 : ((i 7469) - 1).toInt = (i 7469).toInt - (1 : Int32).toInt := kd_sub (oz341 hp1 kn1) (oz424 fi_7469.2 kn1)
  have hJ2 := kG_i hG 7469 rfl (v := ((i 7469) - 1)) ⟨(oz425 hp1 s1 kn1), (oz426 fi_7469.2 s1 kn1)⟩
  refine ft_go mi_k179 8 12 [(2, .int x1), (0, .ref 116), (1, .int x1)] [] (ku i 7469 ((i 7469) - 1)) a q r (by rfl) ?_
  have lp3 : ∀ (nz : Nat) (i3 : Nat → Int32) (a3 : Nat → List Int32) (q3 : Nat → List Int64) (r3 : Nat → Nat) (l2_3 : Int32), kG w179_116_L12 (ku i 7469 ((i 7469) - 1)) a q r i3 a3 q3 r3 → (0 : Int) ≤ l2_3.toInt → (((i3 7469).toInt - l2_3.toInt)).toNat < nz → ko 1 (mi_h179, mi_c179) P (12, [(2, .int l2_3), (0, .ref 116), (1, .int x1)], [], (0, 0), ks i3 a3 q3 r3) := by
    intro nz
    induction nz with
    | zero =>
      intro _ _ _ _ _ _ _ hm
      exact absurd hm (Nat.not_lt_zero _)
    | succ nz ih3 =>
      intro i3 a3 q3 r3 l2_3 hL3 p3_0 hm3
      have fi3_7469 : ((0 : Int) ≤ (i3 7469).toInt) ∧ ((i3 7469).toInt ≤ 21) := hL3.I.1 7469
      have efi3_7469 : (i3 7469).toInt = ((i 7469) - 1).toInt := hL3.ti 7469 rfl
      refine ft_go mi_k179 3 17 [(2, .int l2_3), (0, .ref 116), (1, .int x1)] [.int (i3 7469), .int l2_3] i3 a3 q3 r3 (by rfl) ?_
      refine ft_if mi_k179 (decide ((i3 7469) ≤ l2_3)) 40 20 [(2, .int l2_3), (0, .ref 116), (1, .int x1)] [] (by rfl) (fun c => ?_) (fun c => ?_)
      ·
        have c4 : (i3 7469).toInt ≤ l2_3.toInt := kd_le c; clear c
        have hG5 := kG_call hJ2 hL3 (by decide +kernel)
        exact ft_ret mi_k179 (by rfl) (hP  _ _ _ _ hG5 (oz427 efi3_7469 s1 kn1))
      ·
        have c6 : l2_3.toInt < (i3 7469).toInt := kd_leF c; clear c
        have s7 : (l2_3 + 1).toInt = l2_3.toInt + (1 : Int32).toInt := kd_add (oz12 p3_0 kn1) (oz381 c6 fi3_7469.2 kn1)
        refine ft_go mi_k179 8 32 [(2, .int l2_3), (0, .ref 116), (1, .int x1)] [.int (l2_3 + 1), .ref 142, .int l2_3, .ref 142] i3 a3 q3 r3 (by rfl) ?_
        refine ko_iald3 mi_k179.1 (n := 21) (c := 21) (ax := (0, 0, 0, 0, 0)) (mi_k179.2 _ _ (by rfl)) (by rfl) (ksG142 _ _ _ _) (hL3.I.2.1 142) rfl (oz14 p3_0 s7 kn1) (oz428 c6 efi3_7469 fi_7469.2 s1 s7 kn1) ?_
        have r8 : ((0 : Int) ≤ ((a3 142).getD (l2_3 + 1).toNatClampNeg 0).toInt) ∧ (((a3 142).getD (l2_3 + 1).toNatClampNeg 0).toInt ≤ 7) := hL3.I.2.2.1 142 ((l2_3 + 1).toNatClampNeg)
        refine ko_iast3 mi_k179.1 (n := 21) (c := 21) (ax := (0, 0, 0, 0, 0)) (mi_k179.2 _ _ (by rfl)) (by rfl) (ksG142 _ _ _ _) (ksA142 _ _ _ _) (hL3.I.2.1 142) rfl (oz3 p3_0) (oz241 c6 fi3_7469.2) ?_
        intro a9 ea9 fa9
        have hJ9 := kG_a3 hL3 142 rfl ea9 fa9 ⟨(oz3 r8.1), (oz407 r8.2)⟩
        refine ft_go mi_k179 2 12 [(2, .int (l2_3 + 1)), (0, .ref 116), (1, .int x1)] [] i3 a9 q3 r3 (by rfl) ?_
        exact ih3 _ _ _ _ _ hJ9 (oz14 p3_0 s7 kn1) (kj_meas (oz44 s7 kn1) (oz45 c6) hm3)
  exact lp3 _ _ _ _ _ _ (kG_self _ hJ2.I hJ2.R) (oz3 hp0) (Nat.lt_succ_self _)
def w180_116 : kW := ([7464, 7465, 7466, 7467, 7469], [118, 128, 129, 139, 141, 142, 143, 144, 145], [], [])
def w180_116_L73 : kW := ([7464, 7465, 7466, 7467, 7469], [118, 128, 129, 139, 141, 142, 143, 144, 145], [], [])
set_option maxRecDepth 100000 in
theorem kc180_116 {i : Nat → Int32} {a : Nat → List Int32} {q : Nat → List Int64} {r : Nat → Nat} (hI : kI i a q) (hr : kr r) (x1 : Int32) (x2 : Int32) (x3 : Int32) (hE_code : kCode i a) : km 15 180 [.ref 116, .int x1, .int x2, .int x3] (ks i a q r) (kVI w180_116 i a q r (fun v i1 a1 q1 r1 => True)) := by
  have hG := kG_self w180_116 hI hr
  refine km_ofI (q := (mi_h180, mi_c180)) rfl (by decide) (Nat.le_of_ble_eq_true rfl) ?_
  intro P hP
  refine ft_go mi_k180 1 1 [(0, .ref 116), (1, .int x1), (2, .int x2), (3, .int x3)] [.int x1] i a q r (by rfl) ?_
  refine ko_callPI mi_k180.1 (pc := 1) (ls := [(0, .ref 116), (1, .int x1), (2, .int x2), (3, .int x3)]) (st := [.int x1]) (h := ks i a q r) (i := (.invokestatic 127, 3, 133, 0, 9, 0, 382)) (mi_k180.2 _ _ (by rfl)) (ft_invS mi_pq133 (by rfl)) (cy := mi_c133) mi_pq133 rfl (kc133 hG.I hG.R x1) (by decide) ?_
  intro vg1 hg1
  rcases hg1 with ⟨eg1, hg1⟩ | ⟨eg1, hg1⟩
  ·
    subst eg1
    have z2 : ((0 : Int) ≤ x1.toInt) ∧ (x1.toInt ≤ 5) := hg1
    refine ft_go mi_k180 3 9 [(0, .ref 116), (1, .int x1), (2, .int x2), (3, .int x3)] [.int x2, .ref 116] i a q r (by rfl) ?_
    refine ko_callPI mi_k180.1 (pc := 9) (ls := [(0, .ref 116), (1, .int x1), (2, .int x2), (3, .int x3)]) (st := [.int x2, .ref 116]) (h := ks i a q r) (i := (.invokevirtual 137, 3, 132, 0, 9, 0, 387)) (mi_k180.2 _ _ (by rfl)) (ft_invS mi_pq132 (by rfl)) (cy := mi_c132) mi_pq132 rfl (kc132_116 hG.I hG.R x2) (by decide) ?_
    intro vg3 hg3
    rcases hg3 with ⟨eg3, hg3⟩ | ⟨eg3, hg3⟩
    ·
      subst eg3
      have fi_7424 : ((0 : Int) ≤ (i 7424).toInt) ∧ ((i 7424).toInt ≤ 8) := hG.I.1 7424
      have z4 : ((0 : Int) ≤ x2.toInt) ∧ (x2.toInt < (i 7424).toInt) := hg3
      refine ft_go mi_k180 4 18 [(0, .ref 116), (1, .int x1), (2, .int x2), (3, .int x3)] [.int 1, .int 0, .int x3] i a q r (by rfl) ?_
      refine ko_callPI mi_k180.1 (pc := 18) (ls := [(0, .ref 116), (1, .int x1), (2, .int x2), (3, .int x3)]) (st := [.int 1, .int 0, .int x3]) (h := ks i a q r) (i := (.invokestatic 119, 3, 131, 0, 9, 0, 379)) (mi_k180.2 _ _ (by rfl)) (ft_invS mi_pq131 (by rfl)) (cy := mi_c131) mi_pq131 rfl (kc131 hG.I hG.R x3 0 1) (by decide) ?_
      intro vg5 hg5
      rcases hg5 with ⟨eg5, hg5⟩ | ⟨eg5, hg5⟩
      ·
        subst eg5
        have z6 : ((0 : Int32).toInt ≤ x3.toInt) ∧ (x3.toInt ≤ (1 : Int32).toInt) := hg5
        refine ft_go mi_k180 3 28 [(0, .ref 116), (1, .int x1), (2, .int x2), (3, .int x3)] [.int x1, .ref 116] i a q r (by rfl) ?_
        refine ko_callPI mi_k180.1 (pc := 28) (ls := [(0, .ref 116), (1, .int x1), (2, .int x2), (3, .int x3)]) (st := [.int x1, .ref 116]) (h := ks i a q r) (i := (.invokevirtual 276, 3, 173, 0, 9, 0, 410)) (mi_k180.2 _ _ (by rfl)) (ft_invS mi_pq173 (by rfl)) (cy := mi_c173) mi_pq173 rfl (kc173_116 hG.I hG.R x1 (oz35 z2.1 z2.2)) (by decide) ?_
        intro vg7 hg7
        have z8 : (vg7.toInt < 0) ∨ (vg7.toInt = 0) := hg7
        refine ft_go mi_k180 2 35 [(4, .int vg7), (0, .ref 116), (1, .int x1), (2, .int x2), (3, .int x3)] [.int vg7] i a q r (by rfl) ?_
        refine ft_if mi_k180 (decide (0 ≤ vg7)) 41 38 [(4, .int vg7), (0, .ref 116), (1, .int x1), (2, .int x2), (3, .int x3)] [] (by rfl) (fun c => ?_) (fun c => ?_)
        ·
          have c9 : (0 : Int32).toInt ≤ vg7.toInt := kd_le c; clear c
          refine ft_go mi_k180 2 43 [(4, .int vg7), (0, .ref 116), (1, .int x1), (2, .int x2), (3, .int x3)] [.int x1, .ref 116] i a q r (by rfl) ?_
          refine ko_callN mi_k180.1 (pc := 43) (ls := [(4, .int vg7), (0, .ref 116), (1, .int x1), (2, .int x2), (3, .int x3)]) (st := [.int x1, .ref 116]) (h := ks i a q r) (i := (.invokevirtual 279, 3, 174, 0, 9, 0, 411)) (mi_k180.2 _ _ (by rfl)) (ft_invS mi_pq174 (by rfl)) (cy := mi_c174) mi_pq174 rfl (kc174_116 hG.I hG.R x1 (oz35 z2.1 z2.2)) (by decide) ?_
          intro ig10 ag10 qg10 rg10 kg10 hg10
          have hGg10 := kG_call hG kg10 (by decide +kernel)
          have fig10_7469 : ((0 : Int) ≤ (ig10 7469).toInt) ∧ ((ig10 7469).toInt ≤ 21) := hGg10.I.1 7469
          have z11 : (ig10 7469).toInt ≤ 20 := hg10
          refine ft_go mi_k180 3 52 [(4, .int vg7), (0, .ref 116), (1, .int x1), (2, .int x2), (3, .int x3)] [.int 20, .int (ig10 7469)] ig10 ag10 qg10 rg10 (by rfl) ?_
          refine ft_if mi_k180 ((ig10 7469) != 20) 58 55 [(4, .int vg7), (0, .ref 116), (1, .int x1), (2, .int x2), (3, .int x3)] [] (by rfl) (fun c => ?_) (fun c => ?_)
          ·
            have c12 : (ig10 7469).toInt ≠ (20 : Int32).toInt := kd_ne c; clear c
            refine ft_go mi_k180 9 73 [(8, .int 0), (7, .int (ig10 7469)), (6, .int (-1)), (5, .int 0), (4, .int vg7), (0, .ref 116), (1, .int x1), (2, .int x2), (3, .int x3)] [] ig10 ag10 qg10 rg10 (by rfl) ?_
            have lp13 : ∀ (nz : Nat) (i13 : Nat → Int32) (a13 : Nat → List Int32) (q13 : Nat → List Int64) (r13 : Nat → Nat) (l8_13 : Int32) (l6_13 : Int32) (l5_13 : Int32), kG w180_116_L73 ig10 ag10 qg10 rg10 i13 a13 q13 r13 → (0 : Int) ≤ l8_13.toInt → (ig10 7469).toInt = (i13 7469).toInt → (ig10 7469).toInt ≤ 19 → ((((ig10 7469).toInt + 1) - l8_13.toInt)).toNat < nz → ko 15 (mi_h180, mi_c180) P (73, [(8, .int l8_13), (7, .int (ig10 7469)), (6, .int l6_13), (5, .int l5_13), (4, .int vg7), (0, .ref 116), (1, .int x1), (2, .int x2), (3, .int x3)], [], (0, 0), ks i13 a13 q13 r13) := by
              intro nz
              induction nz with
              | zero =>
                intro _ _ _ _ _ _ _ _ _ _ _ hm
                exact absurd hm (Nat.not_lt_zero _)
              | succ nz ih13 =>
                intro i13 a13 q13 r13 l8_13 l6_13 l5_13 hL13 p13_0 p13_1 p13_2 hm13
                have fi13_7469 : ((0 : Int) ≤ (i13 7469).toInt) ∧ ((i13 7469).toInt ≤ 21) := hL13.I.1 7469
                refine ft_go mi_k180 2 77 [(8, .int l8_13), (7, .int (ig10 7469)), (6, .int l6_13), (5, .int l5_13), (4, .int vg7), (0, .ref 116), (1, .int x1), (2, .int x2), (3, .int x3)] [.int (ig10 7469), .int l8_13] i13 a13 q13 r13 (by rfl) ?_
                refine ft_if mi_k180 (decide ((ig10 7469) < l8_13)) 124 80 [(8, .int l8_13), (7, .int (ig10 7469)), (6, .int l6_13), (5, .int l5_13), (4, .int vg7), (0, .ref 116), (1, .int x1), (2, .int x2), (3, .int x3)] [] (by rfl) (fun c => ?_) (fun c => ?_)
                ·
                  have c14 : (ig10 7469).toInt < l8_13.toInt := kd_lt c; clear c
                  have hG15 := kG_call hGg10 hL13 (by decide +kernel)
                  refine ft_go mi_k180 1 125 [(8, .int l8_13), (7, .int (ig10 7469)), (6, .int l6_13), (5, .int l5_13), (4, .int vg7), (0, .ref 116), (1, .int x1), (2, .int x2), (3, .int x3)] [.int x3] i13 a13 q13 r13 (by rfl) ?_
                  refine ft_if mi_k180 (x3 != 0) 133 128 [(8, .int l8_13), (7, .int (ig10 7469)), (6, .int l6_13), (5, .int l5_13), (4, .int vg7), (0, .ref 116), (1, .int x1), (2, .int x2), (3, .int x3)] [] (by rfl) (fun c => ?_) (fun c => ?_)
                  ·
                    have c16 : x3.toInt ≠ (0 : Int32).toInt := kd_ne c; clear c
                    refine ft_go mi_k180 1 135 [(8, .int l8_13), (7, .int (ig10 7469)), (6, .int l6_13), (5, .int l5_13), (4, .int vg7), (0, .ref 116), (1, .int x1), (2, .int x2), (3, .int x3)] [.int l6_13] i13 a13 q13 r13 (by rfl) ?_
                    exact ft_ret mi_k180 (by rfl) (hP l6_13 _ _ _ _ hG15 trivial)
                  ·
                    have c17 : x3.toInt = (0 : Int32).toInt := kd_neF c; clear c
                    refine ft_go mi_k180 2 135 [(8, .int l8_13), (7, .int (ig10 7469)), (6, .int l6_13), (5, .int l5_13), (4, .int vg7), (0, .ref 116), (1, .int x1), (2, .int x2), (3, .int x3)] [.int l5_13] i13 a13 q13 r13 (by rfl) ?_
                    exact ft_ret mi_k180 (by rfl) (hP l5_13 _ _ _ _ hG15 trivial)
                ·
                  have c18 : l8_13.toInt ≤ (ig10 7469).toInt := kd_ltF c; clear c
                  refine ft_go mi_k180 3 84 [(8, .int l8_13), (7, .int (ig10 7469)), (6, .int l6_13), (5, .int l5_13), (4, .int vg7), (0, .ref 116), (1, .int x1), (2, .int x2), (3, .int x3)] [.int x2, .int l8_13, .ref 116] i13 a13 q13 r13 (by rfl) ?_
                  refine ko_callN mi_k180.1 (pc := 84) (ls := [(8, .int l8_13), (7, .int (ig10 7469)), (6, .int l6_13), (5, .int l5_13), (4, .int vg7), (0, .ref 116), (1, .int x1), (2, .int x2), (3, .int x3)]) (st := [.int x2, .int l8_13, .ref 116]) (h := ks i13 a13 q13 r13) (i := (.invokevirtual 284, 3, 178, 0, 9, 0, 428)) (mi_k180.2 _ _ (by rfl)) (ft_invS mi_pq178 (by rfl)) (cy := mi_c178) mi_pq178 rfl (kc178_116 hL13.I hL13.R l8_13 x2 (oz436 c18 p13_0 p13_1) (oz437 p13_1 p13_2) (oz423 fi_7424.2 z4.1 z4.2)) (by decide) ?_
                  intro ig19 ag19 qg19 rg19 kg19 hg19
                  have hGg19 := kG_call hL13 kg19 (by decide +kernel)
                  have fig19_7469 : ((0 : Int) ≤ (ig19 7469).toInt) ∧ ((ig19 7469).toInt ≤ 21) := hGg19.I.1 7469
                  have z20 : (ig19 7469).toInt = ((i13 7469).toInt + 1) := hg19
                  refine ft_go mi_k180 2 89 [(8, .int l8_13), (7, .int (ig10 7469)), (6, .int l6_13), (5, .int l5_13), (4, .int vg7), (0, .ref 116), (1, .int x1), (2, .int x2), (3, .int x3)] [.int x2, .ref 116] ig19 ag19 qg19 rg19 (by rfl) ?_
                  have hG21 := kG_call hGg10 hGg19 (by decide +kernel)
                  refine ko_callI mi_k180.1 (pc := 89) (ls := [(8, .int l8_13), (7, .int (ig10 7469)), (6, .int l6_13), (5, .int l5_13), (4, .int vg7), (0, .ref 116), (1, .int x1), (2, .int x2), (3, .int x3)]) (st := [.int x2, .ref 116]) (h := ks ig19 ag19 qg19 rg19) (i := (.invokevirtual 288, 3, 172, 0, 9, 0, 429)) (mi_k180.2 _ _ (by rfl)) (ft_invS mi_pq172 (by rfl)) (cy := mi_c172) mi_pq172 rfl (kc172_116 hGg19.I hGg19.R x2 (oz423 fi_7424.2 z4.1 z4.2) (kCode_of (i1 := ig19) hE_code (hG21.fi 7432 rfl) (hG21.fa 120 rfl) (hG21.fa 121 rfl) (hG21.fa 122 rfl) (hG21.fa 123 rfl))) (by decide) ?_
                  intro vg22 ig22 ag22 qg22 rg22 kg22 hg22
                  have hGg22 := kG_call hGg19 kg22 (by decide +kernel)
                  refine ft_go mi_k180 3 97 [(9, .int vg22), (8, .int l8_13), (7, .int (ig10 7469)), (6, .int l6_13), (5, .int l5_13), (4, .int vg7), (0, .ref 116), (1, .int x1), (2, .int x2), (3, .int x3)] [.int l8_13, .ref 116] ig22 ag22 qg22 rg22 (by rfl) ?_
                  have fig22_7469 : ((0 : Int) ≤ (ig22 7469).toInt) ∧ ((ig22 7469).toInt ≤ 21) := hGg22.I.1 7469
                  have efig22_7469 : (ig22 7469).toInt = (ig19 7469).toInt := kg22.ti 7469 rfl
                  refine ko_callN mi_k180.1 (pc := 97) (ls := [(9, .int vg22), (8, .int l8_13), (7, .int (ig10 7469)), (6, .int l6_13), (5, .int l5_13), (4, .int vg7), (0, .ref 116), (1, .int x1), (2, .int x2), (3, .int x3)]) (st := [.int l8_13, .ref 116]) (h := ks ig22 ag22 qg22 rg22) (i := (.invokevirtual 291, 3, 179, 0, 9, 0, 430)) (mi_k180.2 _ _ (by rfl)) (ft_invS mi_pq179 (by rfl)) (cy := mi_c179) mi_pq179 rfl (kc179_116 hGg22.I hGg22.R l8_13 (oz3 p13_0) (oz429 efig22_7469 fi13_7469.1 z20)) (by decide) ?_
                  intro ig23 ag23 qg23 rg23 kg23 hg23
                  have hGg23 := kG_call hGg22 kg23 (by decide +kernel)
                  have fig23_7469 : ((0 : Int) ≤ (ig23 7469).toInt) ∧ ((ig23 7469).toInt ≤ 21) := hGg23.I.1 7469
                  have z24 : (ig23 7469).toInt = ((ig22 7469).toInt - 1) := hg23
                  refine ft_go mi_k180 2 104 [(9, .int vg22), (8, .int l8_13), (7, .int (ig10 7469)), (6, .int l6_13), (5, .int l5_13), (4, .int vg7), (0, .ref 116), (1, .int x1), (2, .int x2), (3, .int x3)] [.int l6_13, .int vg22] ig23 ag23 qg23 rg23 (by rfl) ?_
                  refine ft_if mi_k180 (decide (l6_13 < vg22)) 110 107 [(9, .int vg22), (8, .int l8_13), (7, .int (ig10 7469)), (6, .int l6_13), (5, .int l5_13), (4, .int vg7), (0, .ref 116), (1, .int x1), (2, .int x2), (3, .int x3)] [] (by rfl) (fun c => ?_) (fun c => ?_)
                  ·
                    have c25 : l6_13.toInt < vg22.toInt := kd_lt c; clear c
                    have s26 : (l8_13 + 1).toInt = l8_13.toInt + (1 : Int32).toInt := kd_add (oz12 p13_0 kn1) (oz430 c18 fig10_7469.2 kn1)
                    refine ft_go mi_k180 6 73 [(8, .int (l8_13 + 1)), (5, .int l8_13), (6, .int vg22), (9, .int vg22), (7, .int (ig10 7469)), (4, .int vg7), (0, .ref 116), (1, .int x1), (2, .int x2), (3, .int x3)] [] ig23 ag23 qg23 rg23 (by rfl) ?_
                    refine ko_perm [(8, .int (l8_13 + 1)), (7, .int (ig10 7469)), (6, .int vg22), (5, .int l8_13), (4, .int vg7), (0, .ref 116), (1, .int x1), (2, .int x2), (3, .int x3)] (List.forall_mem_cons.mpr ⟨(List.Mem.head _), (List.forall_mem_cons.mpr ⟨(List.Mem.tail _ (List.Mem.tail _ (List.Mem.tail _ (List.Mem.tail _ (List.Mem.head _))))), (List.forall_mem_cons.mpr ⟨(List.Mem.tail _ (List.Mem.tail _ (List.Mem.head _))), (List.forall_mem_cons.mpr ⟨(List.Mem.tail _ (List.Mem.head _)), (List.forall_mem_cons.mpr ⟨(List.Mem.tail _ (List.Mem.tail _ (List.Mem.tail _ (List.Mem.tail _ (List.Mem.tail _ (List.Mem.head _)))))), (List.forall_mem_cons.mpr ⟨(List.Mem.tail _ (List.Mem.tail _ (List.Mem.tail _ (List.Mem.tail _ (List.Mem.tail _ (List.Mem.tail _ (List.Mem.head _))))))), (List.forall_mem_cons.mpr ⟨(List.Mem.tail _ (List.Mem.tail _ (List.Mem.tail _ (List.Mem.tail _ (List.Mem.tail _ (List.Mem.tail _ (List.Mem.tail _ (List.Mem.head _)))))))), (List.forall_mem_cons.mpr ⟨(List.Mem.tail _ (List.Mem.tail _ (List.Mem.tail _ (List.Mem.tail _ (List.Mem.tail _ (List.Mem.tail _ (List.Mem.tail _ (List.Mem.tail _ (List.Mem.head _))))))))), (List.forall_mem_cons.mpr ⟨(List.Mem.tail _ (List.Mem.tail _ (List.Mem.tail _ (List.Mem.tail _ (List.Mem.tail _ (List.Mem.tail _ (List.Mem.tail _ (List.Mem.tail _ (List.Mem.tail _ (List.Mem.head _)))))))))), (fun _ h => absurd h List.not_mem_nil)⟩)⟩)⟩)⟩)⟩)⟩)⟩)⟩)⟩) ?_
                    exact ih13 _ _ _ _ _ _ _ hGg23 (oz14 p13_0 s26 kn1) (oz438 efig22_7469 p13_1 z20 z24) (oz432 p13_2) (kj_meas (oz433 s26 kn1) (oz434 c18) hm13)
                  ·
                    have c27 : vg22.toInt ≤ l6_13.toInt := kd_ltF c; clear c
                    have s28 : (l8_13 + 1).toInt = l8_13.toInt + (1 : Int32).toInt := kd_add (oz12 p13_0 kn1) (oz430 c18 fig10_7469.2 kn1)
                    refine ft_go mi_k180 3 73 [(8, .int (l8_13 + 1)), (9, .int vg22), (7, .int (ig10 7469)), (6, .int l6_13), (5, .int l5_13), (4, .int vg7), (0, .ref 116), (1, .int x1), (2, .int x2), (3, .int x3)] [] ig23 ag23 qg23 rg23 (by rfl) ?_
                    refine ko_perm [(8, .int (l8_13 + 1)), (7, .int (ig10 7469)), (6, .int l6_13), (5, .int l5_13), (4, .int vg7), (0, .ref 116), (1, .int x1), (2, .int x2), (3, .int x3)] (List.forall_mem_cons.mpr ⟨(List.Mem.head _), (List.forall_mem_cons.mpr ⟨(List.Mem.tail _ (List.Mem.tail _ (List.Mem.head _))), (List.forall_mem_cons.mpr ⟨(List.Mem.tail _ (List.Mem.tail _ (List.Mem.tail _ (List.Mem.head _)))), (List.forall_mem_cons.mpr ⟨(List.Mem.tail _ (List.Mem.tail _ (List.Mem.tail _ (List.Mem.tail _ (List.Mem.head _))))), (List.forall_mem_cons.mpr ⟨(List.Mem.tail _ (List.Mem.tail _ (List.Mem.tail _ (List.Mem.tail _ (List.Mem.tail _ (List.Mem.head _)))))), (List.forall_mem_cons.mpr ⟨(List.Mem.tail _ (List.Mem.tail _ (List.Mem.tail _ (List.Mem.tail _ (List.Mem.tail _ (List.Mem.tail _ (List.Mem.head _))))))), (List.forall_mem_cons.mpr ⟨(List.Mem.tail _ (List.Mem.tail _ (List.Mem.tail _ (List.Mem.tail _ (List.Mem.tail _ (List.Mem.tail _ (List.Mem.tail _ (List.Mem.head _)))))))), (List.forall_mem_cons.mpr ⟨(List.Mem.tail _ (List.Mem.tail _ (List.Mem.tail _ (List.Mem.tail _ (List.Mem.tail _ (List.Mem.tail _ (List.Mem.tail _ (List.Mem.tail _ (List.Mem.head _))))))))), (List.forall_mem_cons.mpr ⟨(List.Mem.tail _ (List.Mem.tail _ (List.Mem.tail _ (List.Mem.tail _ (List.Mem.tail _ (List.Mem.tail _ (List.Mem.tail _ (List.Mem.tail _ (List.Mem.tail _ (List.Mem.head _)))))))))), (fun _ h => absurd h List.not_mem_nil)⟩)⟩)⟩)⟩)⟩)⟩)⟩)⟩)⟩) ?_
                    exact ih13 _ _ _ _ _ _ _ hGg23 (oz14 p13_0 s28 kn1) (oz438 efig22_7469 p13_1 z20 z24) (oz432 p13_2) (kj_meas (oz433 s28 kn1) (oz434 c18) hm13)
            exact lp13 _ _ _ _ _ _ _ _ (kG_self _ hGg10.I hGg10.R) (oz46 kn0) oz34 (oz435 c12 z11 kn20) (Nat.lt_succ_self _)
          ·
            have c29 : (ig10 7469).toInt = (20 : Int32).toInt := kd_neF c; clear c
            refine ft_go mi_k180 1 57 [(4, .int vg7), (0, .ref 116), (1, .int x1), (2, .int x2), (3, .int x3)] [.int (-5)] ig10 ag10 qg10 rg10 (by rfl) ?_
            exact ft_ret mi_k180 (by rfl) (hP (-5) _ _ _ _ hGg10 trivial)
        ·
          have c30 : vg7.toInt < (0 : Int32).toInt := kd_leF c; clear c
          refine ft_go mi_k180 1 40 [(4, .int vg7), (0, .ref 116), (1, .int x1), (2, .int x2), (3, .int x3)] [.int vg7] i a q r (by rfl) ?_
          exact ft_ret mi_k180 (by rfl) (hP vg7 _ _ _ _ hG trivial)
      ·
        subst eg5
        have z31 : ¬ (((0 : Int32).toInt ≤ x3.toInt) ∧ (x3.toInt ≤ (1 : Int32).toInt)) := hg5
        refine ft_go mi_k180 2 25 [(0, .ref 116), (1, .int x1), (2, .int x2), (3, .int x3)] [.int (-1)] i a q r (by rfl) ?_
        exact ft_ret mi_k180 (by rfl) (hP (-1) _ _ _ _ hG trivial)
    ·
      subst eg3
      have fi_7424 : ((0 : Int) ≤ (i 7424).toInt) ∧ ((i 7424).toInt ≤ 8) := hG.I.1 7424
      have z32 : ¬ (((0 : Int) ≤ x2.toInt) ∧ (x2.toInt < (i 7424).toInt)) := hg3
      refine ft_go mi_k180 2 25 [(0, .ref 116), (1, .int x1), (2, .int x2), (3, .int x3)] [.int (-1)] i a q r (by rfl) ?_
      exact ft_ret mi_k180 (by rfl) (hP (-1) _ _ _ _ hG trivial)
  ·
    subst eg1
    have z33 : ¬ (((0 : Int) ≤ x1.toInt) ∧ (x1.toInt ≤ 5)) := hg1
    refine ft_go mi_k180 2 25 [(0, .ref 116), (1, .int x1), (2, .int x2), (3, .int x3)] [.int (-1)] i a q r (by rfl) ?_
    exact ft_ret mi_k180 (by rfl) (hP (-1) _ _ _ _ hG trivial)
def w181_116 : kW := ([7464, 7465, 7466, 7467, 7469], [118, 128, 129, 139, 141, 142, 143, 144, 145], [], [])
def w181_116_L82 : kW := ([7464, 7465, 7466, 7467, 7469], [118, 128, 129, 139, 141, 142, 143, 144, 145], [], [])
set_option maxRecDepth 100000 in
theorem kc181_116 {i : Nat → Int32} {a : Nat → List Int32} {q : Nat → List Int64} {r : Nat → Nat} (hI : kI i a q) (hr : kr r) (x1 : Int32) (x2 : Int32) (x3 : Int32) (x4 : Int32) (hE_code : kCode i a) : km 15 181 [.ref 116, .int x1, .int x2, .int x3, .int x4] (ks i a q r) (kVI w181_116 i a q r (fun v i1 a1 q1 r1 => True)) := by
  have hG := kG_self w181_116 hI hr
  refine km_ofI (q := (mi_h181, mi_c181)) rfl (by decide) (Nat.le_of_ble_eq_true rfl) ?_
  intro P hP
  refine ft_go mi_k181 1 1 [(0, .ref 116), (1, .int x1), (2, .int x2), (3, .int x3), (4, .int x4)] [.int x1] i a q r (by rfl) ?_
  refine ko_callPI mi_k181.1 (pc := 1) (ls := [(0, .ref 116), (1, .int x1), (2, .int x2), (3, .int x3), (4, .int x4)]) (st := [.int x1]) (h := ks i a q r) (i := (.invokestatic 127, 3, 133, 0, 9, 0, 382)) (mi_k181.2 _ _ (by rfl)) (ft_invS mi_pq133 (by rfl)) (cy := mi_c133) mi_pq133 rfl (kc133 hG.I hG.R x1) (by decide) ?_
  intro vg1 hg1
  rcases hg1 with ⟨eg1, hg1⟩ | ⟨eg1, hg1⟩
  ·
    subst eg1
    have z2 : ((0 : Int) ≤ x1.toInt) ∧ (x1.toInt ≤ 5) := hg1
    refine ft_go mi_k181 2 8 [(0, .ref 116), (1, .int x1), (2, .int x2), (3, .int x3), (4, .int x4)] [.int x2] i a q r (by rfl) ?_
    refine ft_if mi_k181 (decide (x2 < 0)) 29 11 [(0, .ref 116), (1, .int x1), (2, .int x2), (3, .int x3), (4, .int x4)] [] (by rfl) (fun c => ?_) (fun c => ?_)
    ·
      have c3 : x2.toInt < (0 : Int32).toInt := kd_lt c; clear c
      refine ft_go mi_k181 1 30 [(0, .ref 116), (1, .int x1), (2, .int x2), (3, .int x3), (4, .int x4)] [.int (-1)] i a q r (by rfl) ?_
      exact ft_ret mi_k181 (by rfl) (hP (-1) _ _ _ _ hG trivial)
    ·
      have c4 : (0 : Int32).toInt ≤ x2.toInt := kd_ltF c; clear c
      refine ft_go mi_k181 2 13 [(0, .ref 116), (1, .int x1), (2, .int x2), (3, .int x3), (4, .int x4)] [.int x3, .ref 116] i a q r (by rfl) ?_
      refine ko_callPI mi_k181.1 (pc := 13) (ls := [(0, .ref 116), (1, .int x1), (2, .int x2), (3, .int x3), (4, .int x4)]) (st := [.int x3, .ref 116]) (h := ks i a q r) (i := (.invokevirtual 137, 3, 132, 0, 9, 0, 387)) (mi_k181.2 _ _ (by rfl)) (ft_invS mi_pq132 (by rfl)) (cy := mi_c132) mi_pq132 rfl (kc132_116 hG.I hG.R x3) (by decide) ?_
      intro vg5 hg5
      rcases hg5 with ⟨eg5, hg5⟩ | ⟨eg5, hg5⟩
      ·
        subst eg5
        have fi_7424 : ((0 : Int) ≤ (i 7424).toInt) ∧ ((i 7424).toInt ≤ 8) := hG.I.1 7424
        have z6 : ((0 : Int) ≤ x3.toInt) ∧ (x3.toInt < (i 7424).toInt) := hg5
        refine ft_go mi_k181 4 23 [(0, .ref 116), (1, .int x1), (2, .int x2), (3, .int x3), (4, .int x4)] [.int 1, .int 0, .int x4] i a q r (by rfl) ?_
        refine ko_callPI mi_k181.1 (pc := 23) (ls := [(0, .ref 116), (1, .int x1), (2, .int x2), (3, .int x3), (4, .int x4)]) (st := [.int 1, .int 0, .int x4]) (h := ks i a q r) (i := (.invokestatic 119, 3, 131, 0, 9, 0, 379)) (mi_k181.2 _ _ (by rfl)) (ft_invS mi_pq131 (by rfl)) (cy := mi_c131) mi_pq131 rfl (kc131 hG.I hG.R x4 0 1) (by decide) ?_
        intro vg7 hg7
        rcases hg7 with ⟨eg7, hg7⟩ | ⟨eg7, hg7⟩
        ·
          subst eg7
          have z8 : ((0 : Int32).toInt ≤ x4.toInt) ∧ (x4.toInt ≤ (1 : Int32).toInt) := hg7
          refine ft_go mi_k181 3 33 [(0, .ref 116), (1, .int x1), (2, .int x2), (3, .int x3), (4, .int x4)] [.int x1, .ref 116] i a q r (by rfl) ?_
          refine ko_callPI mi_k181.1 (pc := 33) (ls := [(0, .ref 116), (1, .int x1), (2, .int x2), (3, .int x3), (4, .int x4)]) (st := [.int x1, .ref 116]) (h := ks i a q r) (i := (.invokevirtual 276, 3, 173, 0, 9, 0, 410)) (mi_k181.2 _ _ (by rfl)) (ft_invS mi_pq173 (by rfl)) (cy := mi_c173) mi_pq173 rfl (kc173_116 hG.I hG.R x1 (oz35 z2.1 z2.2)) (by decide) ?_
          intro vg9 hg9
          have z10 : (vg9.toInt < 0) ∨ (vg9.toInt = 0) := hg9
          refine ft_go mi_k181 2 40 [(5, .int vg9), (0, .ref 116), (1, .int x1), (2, .int x2), (3, .int x3), (4, .int x4)] [.int vg9] i a q r (by rfl) ?_
          refine ft_if mi_k181 (decide (0 ≤ vg9)) 46 43 [(5, .int vg9), (0, .ref 116), (1, .int x1), (2, .int x2), (3, .int x3), (4, .int x4)] [] (by rfl) (fun c => ?_) (fun c => ?_)
          ·
            have c11 : (0 : Int32).toInt ≤ vg9.toInt := kd_le c; clear c
            refine ft_go mi_k181 2 48 [(5, .int vg9), (0, .ref 116), (1, .int x1), (2, .int x2), (3, .int x3), (4, .int x4)] [.int x1, .ref 116] i a q r (by rfl) ?_
            refine ko_callN mi_k181.1 (pc := 48) (ls := [(5, .int vg9), (0, .ref 116), (1, .int x1), (2, .int x2), (3, .int x3), (4, .int x4)]) (st := [.int x1, .ref 116]) (h := ks i a q r) (i := (.invokevirtual 279, 3, 174, 0, 9, 0, 411)) (mi_k181.2 _ _ (by rfl)) (ft_invS mi_pq174 (by rfl)) (cy := mi_c174) mi_pq174 rfl (kc174_116 hG.I hG.R x1 (oz35 z2.1 z2.2)) (by decide) ?_
            intro ig12 ag12 qg12 rg12 kg12 hg12
            have hGg12 := kG_call hG kg12 (by decide +kernel)
            have fig12_7469 : ((0 : Int) ≤ (ig12 7469).toInt) ∧ ((ig12 7469).toInt ≤ 21) := hGg12.I.1 7469
            have z13 : (ig12 7469).toInt ≤ 20 := hg12
            refine ft_go mi_k181 3 56 [(5, .int vg9), (0, .ref 116), (1, .int x1), (2, .int x2), (3, .int x3), (4, .int x4)] [.int (ig12 7469), .int x2] ig12 ag12 qg12 rg12 (by rfl) ?_
            refine ft_if mi_k181 (decide (x2 ≤ (ig12 7469))) 61 59 [(5, .int vg9), (0, .ref 116), (1, .int x1), (2, .int x2), (3, .int x3), (4, .int x4)] [] (by rfl) (fun c => ?_) (fun c => ?_)
            ·
              have c14 : x2.toInt ≤ (ig12 7469).toInt := kd_le c; clear c
              refine ft_go mi_k181 3 67 [(5, .int vg9), (0, .ref 116), (1, .int x1), (2, .int x2), (3, .int x3), (4, .int x4)] [.int 20, .int (ig12 7469)] ig12 ag12 qg12 rg12 (by rfl) ?_
              refine ft_if mi_k181 ((ig12 7469) != 20) 73 70 [(5, .int vg9), (0, .ref 116), (1, .int x1), (2, .int x2), (3, .int x3), (4, .int x4)] [] (by rfl) (fun c => ?_) (fun c => ?_)
              ·
                have c15 : (ig12 7469).toInt ≠ (20 : Int32).toInt := kd_ne c; clear c
                refine ft_go mi_k181 6 82 [(8, .int 0), (7, .int (-1)), (6, .int 0), (5, .int vg9), (0, .ref 116), (1, .int x1), (2, .int x2), (3, .int x3), (4, .int x4)] [] ig12 ag12 qg12 rg12 (by rfl) ?_
                have lp16 : ∀ (nz : Nat) (i16 : Nat → Int32) (a16 : Nat → List Int32) (q16 : Nat → List Int64) (r16 : Nat → Nat) (l8_16 : Int32) (l7_16 : Int32) (l6_16 : Int32), kG w181_116_L82 ig12 ag12 qg12 rg12 i16 a16 q16 r16 → (0 : Int) ≤ l8_16.toInt → (i16 7469).toInt ≤ 19 → x2.toInt ≤ (i16 7469).toInt → (((i16 7424).toInt - l8_16.toInt)).toNat < nz → ko 15 (mi_h181, mi_c181) P (82, [(8, .int l8_16), (7, .int l7_16), (6, .int l6_16), (5, .int vg9), (0, .ref 116), (1, .int x1), (2, .int x2), (3, .int x3), (4, .int x4)], [], (0, 0), ks i16 a16 q16 r16) := by
                  intro nz
                  induction nz with
                  | zero =>
                    intro _ _ _ _ _ _ _ _ _ _ _ hm
                    exact absurd hm (Nat.not_lt_zero _)
                  | succ nz ih16 =>
                    intro i16 a16 q16 r16 l8_16 l7_16 l6_16 hL16 p16_0 p16_1 p16_2 hm16
                    have fi16_7469 : ((0 : Int) ≤ (i16 7469).toInt) ∧ ((i16 7469).toInt ≤ 21) := hL16.I.1 7469
                    have fi16_7424 : ((0 : Int) ≤ (i16 7424).toInt) ∧ ((i16 7424).toInt ≤ 8) := hL16.I.1 7424
                    have fig12_7424 : ((0 : Int) ≤ (ig12 7424).toInt) ∧ ((ig12 7424).toInt ≤ 8) := hGg12.I.1 7424
                    have efig12_7424 : (ig12 7424).toInt = (i 7424).toInt := kg12.ti 7424 rfl
                    have efi16_7424 : (i16 7424).toInt = (ig12 7424).toInt := hL16.ti 7424 rfl
                    refine ft_go mi_k181 3 88 [(8, .int l8_16), (7, .int l7_16), (6, .int l6_16), (5, .int vg9), (0, .ref 116), (1, .int x1), (2, .int x2), (3, .int x3), (4, .int x4)] [.int (i16 7424), .int l8_16] i16 a16 q16 r16 (by rfl) ?_
                    refine ft_if mi_k181 (decide ((i16 7424) ≤ l8_16)) 134 91 [(8, .int l8_16), (7, .int l7_16), (6, .int l6_16), (5, .int vg9), (0, .ref 116), (1, .int x1), (2, .int x2), (3, .int x3), (4, .int x4)] [] (by rfl) (fun c => ?_) (fun c => ?_)
                    ·
                      have c17 : (i16 7424).toInt ≤ l8_16.toInt := kd_le c; clear c
                      have hG18 := kG_call hGg12 hL16 (by decide +kernel)
                      refine ft_go mi_k181 1 136 [(8, .int l8_16), (7, .int l7_16), (6, .int l6_16), (5, .int vg9), (0, .ref 116), (1, .int x1), (2, .int x2), (3, .int x3), (4, .int x4)] [.int x4] i16 a16 q16 r16 (by rfl) ?_
                      refine ft_if mi_k181 (x4 != 0) 144 139 [(8, .int l8_16), (7, .int l7_16), (6, .int l6_16), (5, .int vg9), (0, .ref 116), (1, .int x1), (2, .int x2), (3, .int x3), (4, .int x4)] [] (by rfl) (fun c => ?_) (fun c => ?_)
                      ·
                        have c19 : x4.toInt ≠ (0 : Int32).toInt := kd_ne c; clear c
                        refine ft_go mi_k181 1 146 [(8, .int l8_16), (7, .int l7_16), (6, .int l6_16), (5, .int vg9), (0, .ref 116), (1, .int x1), (2, .int x2), (3, .int x3), (4, .int x4)] [.int l7_16] i16 a16 q16 r16 (by rfl) ?_
                        exact ft_ret mi_k181 (by rfl) (hP l7_16 _ _ _ _ hG18 trivial)
                      ·
                        have c20 : x4.toInt = (0 : Int32).toInt := kd_neF c; clear c
                        refine ft_go mi_k181 2 146 [(8, .int l8_16), (7, .int l7_16), (6, .int l6_16), (5, .int vg9), (0, .ref 116), (1, .int x1), (2, .int x2), (3, .int x3), (4, .int x4)] [.int l6_16] i16 a16 q16 r16 (by rfl) ?_
                        exact ft_ret mi_k181 (by rfl) (hP l6_16 _ _ _ _ hG18 trivial)
                    ·
                      have c21 : l8_16.toInt < (i16 7424).toInt := kd_leF c; clear c
                      refine ft_go mi_k181 3 95 [(8, .int l8_16), (7, .int l7_16), (6, .int l6_16), (5, .int vg9), (0, .ref 116), (1, .int x1), (2, .int x2), (3, .int x3), (4, .int x4)] [.int l8_16, .int x2, .ref 116] i16 a16 q16 r16 (by rfl) ?_
                      refine ko_callN mi_k181.1 (pc := 95) (ls := [(8, .int l8_16), (7, .int l7_16), (6, .int l6_16), (5, .int vg9), (0, .ref 116), (1, .int x1), (2, .int x2), (3, .int x3), (4, .int x4)]) (st := [.int l8_16, .int x2, .ref 116]) (h := ks i16 a16 q16 r16) (i := (.invokevirtual 284, 3, 178, 0, 9, 0, 428)) (mi_k181.2 _ _ (by rfl)) (ft_invS mi_pq178 (by rfl)) (cy := mi_c178) mi_pq178 rfl (kc178_116 hL16.I hL16.R x2 l8_16 (oz446 c4 p16_2 kn0) (oz440 p16_1) (oz441 c21 fi16_7424.2 p16_0)) (by decide) ?_
                      intro ig22 ag22 qg22 rg22 kg22 hg22
                      have hGg22 := kG_call hL16 kg22 (by decide +kernel)
                      have fig22_7469 : ((0 : Int) ≤ (ig22 7469).toInt) ∧ ((ig22 7469).toInt ≤ 21) := hGg22.I.1 7469
                      have z23 : (ig22 7469).toInt = ((i16 7469).toInt + 1) := hg22
                      refine ft_go mi_k181 2 100 [(8, .int l8_16), (7, .int l7_16), (6, .int l6_16), (5, .int vg9), (0, .ref 116), (1, .int x1), (2, .int x2), (3, .int x3), (4, .int x4)] [.int x3, .ref 116] ig22 ag22 qg22 rg22 (by rfl) ?_
                      have hG24 := kG_call hGg12 hGg22 (by decide +kernel)
                      refine ko_callI mi_k181.1 (pc := 100) (ls := [(8, .int l8_16), (7, .int l7_16), (6, .int l6_16), (5, .int vg9), (0, .ref 116), (1, .int x1), (2, .int x2), (3, .int x3), (4, .int x4)]) (st := [.int x3, .ref 116]) (h := ks ig22 ag22 qg22 rg22) (i := (.invokevirtual 288, 3, 172, 0, 9, 0, 429)) (mi_k181.2 _ _ (by rfl)) (ft_invS mi_pq172 (by rfl)) (cy := mi_c172) mi_pq172 rfl (kc172_116 hGg22.I hGg22.R x3 (oz423 fi_7424.2 z6.1 z6.2) (kCode_of (i1 := ig22) hE_code (hG24.fi 7432 rfl) (hG24.fa 120 rfl) (hG24.fa 121 rfl) (hG24.fa 122 rfl) (hG24.fa 123 rfl))) (by decide) ?_
                      intro vg25 ig25 ag25 qg25 rg25 kg25 hg25
                      have hGg25 := kG_call hGg22 kg25 (by decide +kernel)
                      refine ft_go mi_k181 3 107 [(9, .int vg25), (8, .int l8_16), (7, .int l7_16), (6, .int l6_16), (5, .int vg9), (0, .ref 116), (1, .int x1), (2, .int x2), (3, .int x3), (4, .int x4)] [.int x2, .ref 116] ig25 ag25 qg25 rg25 (by rfl) ?_
                      have fig25_7469 : ((0 : Int) ≤ (ig25 7469).toInt) ∧ ((ig25 7469).toInt ≤ 21) := hGg25.I.1 7469
                      have efig25_7469 : (ig25 7469).toInt = (ig22 7469).toInt := kg25.ti 7469 rfl
                      refine ko_callN mi_k181.1 (pc := 107) (ls := [(9, .int vg25), (8, .int l8_16), (7, .int l7_16), (6, .int l6_16), (5, .int vg9), (0, .ref 116), (1, .int x1), (2, .int x2), (3, .int x3), (4, .int x4)]) (st := [.int x2, .ref 116]) (h := ks ig25 ag25 qg25 rg25) (i := (.invokevirtual 291, 3, 179, 0, 9, 0, 430)) (mi_k181.2 _ _ (by rfl)) (ft_invS mi_pq179 (by rfl)) (cy := mi_c179) mi_pq179 rfl (kc179_116 hGg25.I hGg25.R x2 (oz389 c4 kn0) (oz429 efig25_7469 fi16_7469.1 z23)) (by decide) ?_
                      intro ig26 ag26 qg26 rg26 kg26 hg26
                      have hGg26 := kG_call hGg25 kg26 (by decide +kernel)
                      have fig26_7469 : ((0 : Int) ≤ (ig26 7469).toInt) ∧ ((ig26 7469).toInt ≤ 21) := hGg26.I.1 7469
                      have z27 : (ig26 7469).toInt = ((ig25 7469).toInt - 1) := hg26
                      refine ft_go mi_k181 2 114 [(9, .int vg25), (8, .int l8_16), (7, .int l7_16), (6, .int l6_16), (5, .int vg9), (0, .ref 116), (1, .int x1), (2, .int x2), (3, .int x3), (4, .int x4)] [.int l7_16, .int vg25] ig26 ag26 qg26 rg26 (by rfl) ?_
                      refine ft_if mi_k181 (decide (l7_16 < vg25)) 120 117 [(9, .int vg25), (8, .int l8_16), (7, .int l7_16), (6, .int l6_16), (5, .int vg9), (0, .ref 116), (1, .int x1), (2, .int x2), (3, .int x3), (4, .int x4)] [] (by rfl) (fun c => ?_) (fun c => ?_)
                      ·
                        have c28 : l7_16.toInt < vg25.toInt := kd_lt c; clear c
                        have s29 : (l8_16 + 1).toInt = l8_16.toInt + (1 : Int32).toInt := kd_add (oz12 p16_0 kn1) (oz442 c21 fi16_7424.2 kn1)
                        refine ft_go mi_k181 6 82 [(8, .int (l8_16 + 1)), (6, .int l8_16), (7, .int vg25), (9, .int vg25), (5, .int vg9), (0, .ref 116), (1, .int x1), (2, .int x2), (3, .int x3), (4, .int x4)] [] ig26 ag26 qg26 rg26 (by rfl) ?_
                        refine ko_perm [(8, .int (l8_16 + 1)), (7, .int vg25), (6, .int l8_16), (5, .int vg9), (0, .ref 116), (1, .int x1), (2, .int x2), (3, .int x3), (4, .int x4)] (List.forall_mem_cons.mpr ⟨(List.Mem.head _), (List.forall_mem_cons.mpr ⟨(List.Mem.tail _ (List.Mem.tail _ (List.Mem.head _))), (List.forall_mem_cons.mpr ⟨(List.Mem.tail _ (List.Mem.head _)), (List.forall_mem_cons.mpr ⟨(List.Mem.tail _ (List.Mem.tail _ (List.Mem.tail _ (List.Mem.tail _ (List.Mem.head _))))), (List.forall_mem_cons.mpr ⟨(List.Mem.tail _ (List.Mem.tail _ (List.Mem.tail _ (List.Mem.tail _ (List.Mem.tail _ (List.Mem.head _)))))), (List.forall_mem_cons.mpr ⟨(List.Mem.tail _ (List.Mem.tail _ (List.Mem.tail _ (List.Mem.tail _ (List.Mem.tail _ (List.Mem.tail _ (List.Mem.head _))))))), (List.forall_mem_cons.mpr ⟨(List.Mem.tail _ (List.Mem.tail _ (List.Mem.tail _ (List.Mem.tail _ (List.Mem.tail _ (List.Mem.tail _ (List.Mem.tail _ (List.Mem.head _)))))))), (List.forall_mem_cons.mpr ⟨(List.Mem.tail _ (List.Mem.tail _ (List.Mem.tail _ (List.Mem.tail _ (List.Mem.tail _ (List.Mem.tail _ (List.Mem.tail _ (List.Mem.tail _ (List.Mem.head _))))))))), (List.forall_mem_cons.mpr ⟨(List.Mem.tail _ (List.Mem.tail _ (List.Mem.tail _ (List.Mem.tail _ (List.Mem.tail _ (List.Mem.tail _ (List.Mem.tail _ (List.Mem.tail _ (List.Mem.tail _ (List.Mem.head _)))))))))), (fun _ h => absurd h List.not_mem_nil)⟩)⟩)⟩)⟩)⟩)⟩)⟩)⟩)⟩) ?_
                        have fig26_7424 : ((0 : Int) ≤ (ig26 7424).toInt) ∧ ((ig26 7424).toInt ≤ 8) := hGg26.I.1 7424
                        have fig25_7424 : ((0 : Int) ≤ (ig25 7424).toInt) ∧ ((ig25 7424).toInt ≤ 8) := hGg25.I.1 7424
                        have fig22_7424 : ((0 : Int) ≤ (ig22 7424).toInt) ∧ ((ig22 7424).toInt ≤ 8) := hGg22.I.1 7424
                        have efig22_7424 : (ig22 7424).toInt = (i16 7424).toInt := kg22.ti 7424 rfl
                        have efig25_7424 : (ig25 7424).toInt = (ig22 7424).toInt := kg25.ti 7424 rfl
                        have efig26_7424 : (ig26 7424).toInt = (ig25 7424).toInt := kg26.ti 7424 rfl
                        exact ih16 _ _ _ _ _ _ _ hGg26 (oz14 p16_0 s29 kn1) (oz443 efig25_7469 p16_1 z23 z27) (oz447 efig25_7469 p16_2 z23 z27) (kj_meas (oz445 efig22_7424 efig25_7424 efig26_7424 s29 kn1) (oz45 c21) hm16)
                      ·
                        have c30 : vg25.toInt ≤ l7_16.toInt := kd_ltF c; clear c
                        have s31 : (l8_16 + 1).toInt = l8_16.toInt + (1 : Int32).toInt := kd_add (oz12 p16_0 kn1) (oz442 c21 fi16_7424.2 kn1)
                        refine ft_go mi_k181 3 82 [(8, .int (l8_16 + 1)), (9, .int vg25), (7, .int l7_16), (6, .int l6_16), (5, .int vg9), (0, .ref 116), (1, .int x1), (2, .int x2), (3, .int x3), (4, .int x4)] [] ig26 ag26 qg26 rg26 (by rfl) ?_
                        refine ko_perm [(8, .int (l8_16 + 1)), (7, .int l7_16), (6, .int l6_16), (5, .int vg9), (0, .ref 116), (1, .int x1), (2, .int x2), (3, .int x3), (4, .int x4)] (List.forall_mem_cons.mpr ⟨(List.Mem.head _), (List.forall_mem_cons.mpr ⟨(List.Mem.tail _ (List.Mem.tail _ (List.Mem.head _))), (List.forall_mem_cons.mpr ⟨(List.Mem.tail _ (List.Mem.tail _ (List.Mem.tail _ (List.Mem.head _)))), (List.forall_mem_cons.mpr ⟨(List.Mem.tail _ (List.Mem.tail _ (List.Mem.tail _ (List.Mem.tail _ (List.Mem.head _))))), (List.forall_mem_cons.mpr ⟨(List.Mem.tail _ (List.Mem.tail _ (List.Mem.tail _ (List.Mem.tail _ (List.Mem.tail _ (List.Mem.head _)))))), (List.forall_mem_cons.mpr ⟨(List.Mem.tail _ (List.Mem.tail _ (List.Mem.tail _ (List.Mem.tail _ (List.Mem.tail _ (List.Mem.tail _ (List.Mem.head _))))))), (List.forall_mem_cons.mpr ⟨(List.Mem.tail _ (List.Mem.tail _ (List.Mem.tail _ (List.Mem.tail _ (List.Mem.tail _ (List.Mem.tail _ (List.Mem.tail _ (List.Mem.head _)))))))), (List.forall_mem_cons.mpr ⟨(List.Mem.tail _ (List.Mem.tail _ (List.Mem.tail _ (List.Mem.tail _ (List.Mem.tail _ (List.Mem.tail _ (List.Mem.tail _ (List.Mem.tail _ (List.Mem.head _))))))))), (List.forall_mem_cons.mpr ⟨(List.Mem.tail _ (List.Mem.tail _ (List.Mem.tail _ (List.Mem.tail _ (List.Mem.tail _ (List.Mem.tail _ (List.Mem.tail _ (List.Mem.tail _ (List.Mem.tail _ (List.Mem.head _)))))))))), (fun _ h => absurd h List.not_mem_nil)⟩)⟩)⟩)⟩)⟩)⟩)⟩)⟩)⟩) ?_
                        have fig26_7424 : ((0 : Int) ≤ (ig26 7424).toInt) ∧ ((ig26 7424).toInt ≤ 8) := hGg26.I.1 7424
                        have fig25_7424 : ((0 : Int) ≤ (ig25 7424).toInt) ∧ ((ig25 7424).toInt ≤ 8) := hGg25.I.1 7424
                        have fig22_7424 : ((0 : Int) ≤ (ig22 7424).toInt) ∧ ((ig22 7424).toInt ≤ 8) := hGg22.I.1 7424
                        have efig22_7424 : (ig22 7424).toInt = (i16 7424).toInt := kg22.ti 7424 rfl
                        have efig25_7424 : (ig25 7424).toInt = (ig22 7424).toInt := kg25.ti 7424 rfl
                        have efig26_7424 : (ig26 7424).toInt = (ig25 7424).toInt := kg26.ti 7424 rfl
                        exact ih16 _ _ _ _ _ _ _ hGg26 (oz14 p16_0 s31 kn1) (oz443 efig25_7469 p16_1 z23 z27) (oz447 efig25_7469 p16_2 z23 z27) (kj_meas (oz445 efig22_7424 efig25_7424 efig26_7424 s31 kn1) (oz45 c21) hm16)
                exact lp16 _ _ _ _ _ _ _ _ (kG_self _ hGg12.I hGg12.R) (oz46 kn0) (oz435 c15 z13 kn20) (oz173 c14) (Nat.lt_succ_self _)
              ·
                have c32 : (ig12 7469).toInt = (20 : Int32).toInt := kd_neF c; clear c
                refine ft_go mi_k181 1 72 [(5, .int vg9), (0, .ref 116), (1, .int x1), (2, .int x2), (3, .int x3), (4, .int x4)] [.int (-5)] ig12 ag12 qg12 rg12 (by rfl) ?_
                exact ft_ret mi_k181 (by rfl) (hP (-5) _ _ _ _ hGg12 trivial)
            ·
              have c33 : (ig12 7469).toInt < x2.toInt := kd_leF c; clear c
              refine ft_go mi_k181 1 60 [(5, .int vg9), (0, .ref 116), (1, .int x1), (2, .int x2), (3, .int x3), (4, .int x4)] [.int (-1)] ig12 ag12 qg12 rg12 (by rfl) ?_
              exact ft_ret mi_k181 (by rfl) (hP (-1) _ _ _ _ hGg12 trivial)
          ·
            have c34 : vg9.toInt < (0 : Int32).toInt := kd_leF c; clear c
            refine ft_go mi_k181 1 45 [(5, .int vg9), (0, .ref 116), (1, .int x1), (2, .int x2), (3, .int x3), (4, .int x4)] [.int vg9] i a q r (by rfl) ?_
            exact ft_ret mi_k181 (by rfl) (hP vg9 _ _ _ _ hG trivial)
        ·
          subst eg7
          have z35 : ¬ (((0 : Int32).toInt ≤ x4.toInt) ∧ (x4.toInt ≤ (1 : Int32).toInt)) := hg7
          refine ft_go mi_k181 2 30 [(0, .ref 116), (1, .int x1), (2, .int x2), (3, .int x3), (4, .int x4)] [.int (-1)] i a q r (by rfl) ?_
          exact ft_ret mi_k181 (by rfl) (hP (-1) _ _ _ _ hG trivial)
      ·
        subst eg5
        have fi_7424 : ((0 : Int) ≤ (i 7424).toInt) ∧ ((i 7424).toInt ≤ 8) := hG.I.1 7424
        have z36 : ¬ (((0 : Int) ≤ x3.toInt) ∧ (x3.toInt < (i 7424).toInt)) := hg5
        refine ft_go mi_k181 2 30 [(0, .ref 116), (1, .int x1), (2, .int x2), (3, .int x3), (4, .int x4)] [.int (-1)] i a q r (by rfl) ?_
        exact ft_ret mi_k181 (by rfl) (hP (-1) _ _ _ _ hG trivial)
  ·
    subst eg1
    have z37 : ¬ (((0 : Int) ≤ x1.toInt) ∧ (x1.toInt ≤ 5)) := hg1
    refine ft_go mi_k181 2 30 [(0, .ref 116), (1, .int x1), (2, .int x2), (3, .int x3), (4, .int x4)] [.int (-1)] i a q r (by rfl) ?_
    exact ft_ret mi_k181 (by rfl) (hP (-1) _ _ _ _ hG trivial)
def w182_116 : kW := ([], [142], [], [])
set_option maxRecDepth 100000 in
theorem kc182_116 {i : Nat → Int32} {a : Nat → List Int32} {q : Nat → List Int64} {r : Nat → Nat} (hI : kI i a q) (hr : kr r) (x1 : Int32) (hp0 : ((0 : Int) ≤ x1.toInt) ∧ (x1.toInt ≤ 19)) : km 1 182 [.ref 116, .int x1] (ks i a q r) (kVN w182_116 i a q r (fun i1 a1 q1 r1 => True)) := by
  have hG := kG_self w182_116 hI hr
  refine km_ofN (q := (mi_h182, mi_c182)) rfl (by decide) (Nat.le_of_ble_eq_true rfl) ?_
  intro P hP
  refine ft_go mi_k182 3 5 [(0, .ref 116), (1, .int x1)] [.int x1, .ref 142] i a q r (by rfl) ?_
  refine ko_iald3 mi_k182.1 (n := 21) (c := 21) (ax := (0, 0, 0, 0, 0)) (mi_k182.2 _ _ (by rfl)) (by rfl) (ksG142 _ _ _ _) (hG.I.2.1 142) rfl (oz3 hp0.1) (oz449 hp0.2) ?_
  have r1 : ((0 : Int) ≤ ((a 142).getD x1.toNatClampNeg 0).toInt) ∧ (((a 142).getD x1.toNatClampNeg 0).toInt ≤ 7) := hG.I.2.2.1 142 (x1.toNatClampNeg)
  have s2 : (x1 + 1).toInt = x1.toInt + (1 : Int32).toInt := kd_add (oz12 hp0.1 kn1) (oz450 hp0.2 kn1)
  refine ft_go mi_k182 9 19 [(2, .int ((a 142).getD x1.toNatClampNeg 0)), (0, .ref 116), (1, .int x1)] [.int (x1 + 1), .ref 142, .int x1, .ref 142] i a q r (by rfl) ?_
  refine ko_iald3 mi_k182.1 (n := 21) (c := 21) (ax := (0, 0, 0, 0, 0)) (mi_k182.2 _ _ (by rfl)) (by rfl) (ksG142 _ _ _ _) (hG.I.2.1 142) rfl (oz14 hp0.1 s2 kn1) (oz451 hp0.2 s2 kn1) ?_
  have r3 : ((0 : Int) ≤ ((a 142).getD (x1 + 1).toNatClampNeg 0).toInt) ∧ (((a 142).getD (x1 + 1).toNatClampNeg 0).toInt ≤ 7) := hG.I.2.2.1 142 ((x1 + 1).toNatClampNeg)
  refine ko_iast3 mi_k182.1 (n := 21) (c := 21) (ax := (0, 0, 0, 0, 0)) (mi_k182.2 _ _ (by rfl)) (by rfl) (ksG142 _ _ _ _) (ksA142 _ _ _ _) (hG.I.2.1 142) rfl (oz3 hp0.1) (oz449 hp0.2) ?_
  intro a4 ea4 fa4
  have hJ4 := kG_a3 hG 142 rfl ea4 fa4 ⟨(oz3 r3.1), (oz407 r3.2)⟩
  refine ft_go mi_k182 6 29 [(2, .int ((a 142).getD x1.toNatClampNeg 0)), (0, .ref 116), (1, .int x1)] [.int ((a 142).getD x1.toNatClampNeg 0), .int (x1 + 1), .ref 142] i a4 q r (by rfl) ?_
  refine ko_iast3 mi_k182.1 (n := 21) (c := 21) (ax := (0, 0, 0, 0, 0)) (mi_k182.2 _ _ (by rfl)) (by rfl) (ksG142 _ _ _ _) (ksA142 _ _ _ _) (hJ4.I.2.1 142) rfl (oz14 hp0.1 s2 kn1) (oz451 hp0.2 s2 kn1) ?_
  intro a5 ea5 fa5
  have hJ5 := kG_a3 hJ4 142 rfl ea5 fa5 ⟨(oz3 r1.1), (oz407 r1.2)⟩
  exact ft_ret mi_k182 (by rfl) (hP  _ _ _ _ hJ5 trivial)
def w183_116 : kW := ([7464, 7465, 7466, 7467, 7469], [118, 128, 129, 139, 141, 142, 143, 144, 145], [], [])
def w183_116_L60 : kW := ([7464, 7465, 7466, 7467], [118, 128, 129, 139, 141, 142, 143, 144, 145], [], [])
set_option maxRecDepth 100000 in
theorem kc183_116 {i : Nat → Int32} {a : Nat → List Int32} {q : Nat → List Int64} {r : Nat → Nat} (hI : kI i a q) (hr : kr r) (x1 : Int32) (x2 : Int32) (x3 : Int32) (hE_code : kCode i a) : km 15 183 [.ref 116, .int x1, .int x2, .int x3] (ks i a q r) (kVI w183_116 i a q r (fun v i1 a1 q1 r1 => True)) := by
  have hG := kG_self w183_116 hI hr
  refine km_ofI (q := (mi_h183, mi_c183)) rfl (by decide) (Nat.le_of_ble_eq_true rfl) ?_
  intro P hP
  refine ft_go mi_k183 1 1 [(0, .ref 116), (1, .int x1), (2, .int x2), (3, .int x3)] [.int x1] i a q r (by rfl) ?_
  refine ko_callPI mi_k183.1 (pc := 1) (ls := [(0, .ref 116), (1, .int x1), (2, .int x2), (3, .int x3)]) (st := [.int x1]) (h := ks i a q r) (i := (.invokestatic 127, 3, 133, 0, 9, 0, 382)) (mi_k183.2 _ _ (by rfl)) (ft_invS mi_pq133 (by rfl)) (cy := mi_c133) mi_pq133 rfl (kc133 hG.I hG.R x1) (by decide) ?_
  intro vg1 hg1
  rcases hg1 with ⟨eg1, hg1⟩ | ⟨eg1, hg1⟩
  ·
    subst eg1
    have z2 : ((0 : Int) ≤ x1.toInt) ∧ (x1.toInt ≤ 5) := hg1
    refine ft_go mi_k183 3 9 [(0, .ref 116), (1, .int x1), (2, .int x2), (3, .int x3)] [.int x2, .ref 116] i a q r (by rfl) ?_
    refine ko_callPI mi_k183.1 (pc := 9) (ls := [(0, .ref 116), (1, .int x1), (2, .int x2), (3, .int x3)]) (st := [.int x2, .ref 116]) (h := ks i a q r) (i := (.invokevirtual 137, 3, 132, 0, 9, 0, 387)) (mi_k183.2 _ _ (by rfl)) (ft_invS mi_pq132 (by rfl)) (cy := mi_c132) mi_pq132 rfl (kc132_116 hG.I hG.R x2) (by decide) ?_
    intro vg3 hg3
    rcases hg3 with ⟨eg3, hg3⟩ | ⟨eg3, hg3⟩
    ·
      subst eg3
      have fi_7424 : ((0 : Int) ≤ (i 7424).toInt) ∧ ((i 7424).toInt ≤ 8) := hG.I.1 7424
      have z4 : ((0 : Int) ≤ x2.toInt) ∧ (x2.toInt < (i 7424).toInt) := hg3
      refine ft_go mi_k183 4 18 [(0, .ref 116), (1, .int x1), (2, .int x2), (3, .int x3)] [.int 1, .int 0, .int x3] i a q r (by rfl) ?_
      refine ko_callPI mi_k183.1 (pc := 18) (ls := [(0, .ref 116), (1, .int x1), (2, .int x2), (3, .int x3)]) (st := [.int 1, .int 0, .int x3]) (h := ks i a q r) (i := (.invokestatic 119, 3, 131, 0, 9, 0, 379)) (mi_k183.2 _ _ (by rfl)) (ft_invS mi_pq131 (by rfl)) (cy := mi_c131) mi_pq131 rfl (kc131 hG.I hG.R x3 0 1) (by decide) ?_
      intro vg5 hg5
      rcases hg5 with ⟨eg5, hg5⟩ | ⟨eg5, hg5⟩
      ·
        subst eg5
        have z6 : ((0 : Int32).toInt ≤ x3.toInt) ∧ (x3.toInt ≤ (1 : Int32).toInt) := hg5
        refine ft_go mi_k183 3 28 [(0, .ref 116), (1, .int x1), (2, .int x2), (3, .int x3)] [.int x1, .ref 116] i a q r (by rfl) ?_
        refine ko_callPI mi_k183.1 (pc := 28) (ls := [(0, .ref 116), (1, .int x1), (2, .int x2), (3, .int x3)]) (st := [.int x1, .ref 116]) (h := ks i a q r) (i := (.invokevirtual 276, 3, 173, 0, 9, 0, 410)) (mi_k183.2 _ _ (by rfl)) (ft_invS mi_pq173 (by rfl)) (cy := mi_c173) mi_pq173 rfl (kc173_116 hG.I hG.R x1 (oz35 z2.1 z2.2)) (by decide) ?_
        intro vg7 hg7
        have z8 : (vg7.toInt < 0) ∨ (vg7.toInt = 0) := hg7
        refine ft_go mi_k183 2 35 [(4, .int vg7), (0, .ref 116), (1, .int x1), (2, .int x2), (3, .int x3)] [.int vg7] i a q r (by rfl) ?_
        refine ft_if mi_k183 (decide (0 ≤ vg7)) 41 38 [(4, .int vg7), (0, .ref 116), (1, .int x1), (2, .int x2), (3, .int x3)] [] (by rfl) (fun c => ?_) (fun c => ?_)
        ·
          have c9 : (0 : Int32).toInt ≤ vg7.toInt := kd_le c; clear c
          refine ft_go mi_k183 2 43 [(4, .int vg7), (0, .ref 116), (1, .int x1), (2, .int x2), (3, .int x3)] [.int x1, .ref 116] i a q r (by rfl) ?_
          refine ko_callN mi_k183.1 (pc := 43) (ls := [(4, .int vg7), (0, .ref 116), (1, .int x1), (2, .int x2), (3, .int x3)]) (st := [.int x1, .ref 116]) (h := ks i a q r) (i := (.invokevirtual 279, 3, 174, 0, 9, 0, 411)) (mi_k183.2 _ _ (by rfl)) (ft_invS mi_pq174 (by rfl)) (cy := mi_c174) mi_pq174 rfl (kc174_116 hG.I hG.R x1 (oz35 z2.1 z2.2)) (by decide) ?_
          intro ig10 ag10 qg10 rg10 kg10 hg10
          have hGg10 := kG_call hG kg10 (by decide +kernel)
          have fig10_7469 : ((0 : Int) ≤ (ig10 7469).toInt) ∧ ((ig10 7469).toInt ≤ 21) := hGg10.I.1 7469
          have z11 : (ig10 7469).toInt ≤ 20 := hg10
          refine ft_go mi_k183 4 52 [(5, .int (-2)), (4, .int vg7), (0, .ref 116), (1, .int x1), (2, .int x2), (3, .int x3)] [.int x2, .ref 116] ig10 ag10 qg10 rg10 (by rfl) ?_
          refine ko_callI mi_k183.1 (pc := 52) (ls := [(5, .int (-2)), (4, .int vg7), (0, .ref 116), (1, .int x1), (2, .int x2), (3, .int x3)]) (st := [.int x2, .ref 116]) (h := ks ig10 ag10 qg10 rg10) (i := (.invokevirtual 288, 3, 172, 0, 9, 0, 429)) (mi_k183.2 _ _ (by rfl)) (ft_invS mi_pq172 (by rfl)) (cy := mi_c172) mi_pq172 rfl (kc172_116 hGg10.I hGg10.R x2 (oz423 fi_7424.2 z4.1 z4.2) (kCode_of (i1 := ig10) hE_code (hGg10.fi 7432 rfl) (hGg10.fa 120 rfl) (hGg10.fa 121 rfl) (hGg10.fa 122 rfl) (hGg10.fa 123 rfl))) (by decide) ?_
          intro vg12 ig12 ag12 qg12 rg12 kg12 hg12
          have hGg12 := kG_call hGg10 kg12 (by decide +kernel)
          refine ft_go mi_k183 3 60 [(7, .int 0), (6, .int vg12), (5, .int (-2)), (4, .int vg7), (0, .ref 116), (1, .int x1), (2, .int x2), (3, .int x3)] [] ig12 ag12 qg12 rg12 (by rfl) ?_
          have lp13 : ∀ (nz : Nat) (i13 : Nat → Int32) (a13 : Nat → List Int32) (q13 : Nat → List Int64) (r13 : Nat → Nat) (l7_13 : Int32) (l6_13 : Int32) (l5_13 : Int32), kG w183_116_L60 ig12 ag12 qg12 rg12 i13 a13 q13 r13 → ((0 : Int) ≤ l7_13.toInt) ∧ (l7_13.toInt ≤ 20) → (i13 7469).toInt ≤ 20 → (((i13 7469).toInt - l7_13.toInt)).toNat < nz → ko 15 (mi_h183, mi_c183) P (60, [(7, .int l7_13), (6, .int l6_13), (5, .int l5_13), (4, .int vg7), (0, .ref 116), (1, .int x1), (2, .int x2), (3, .int x3)], [], (0, 0), ks i13 a13 q13 r13) := by
            intro nz
            induction nz with
            | zero =>
              intro _ _ _ _ _ _ _ _ _ _ hm
              exact absurd hm (Nat.not_lt_zero _)
            | succ nz ih13 =>
              intro i13 a13 q13 r13 l7_13 l6_13 l5_13 hL13 p13_0 p13_1 hm13
              have fi13_7469 : ((0 : Int) ≤ (i13 7469).toInt) ∧ ((i13 7469).toInt ≤ 21) := hL13.I.1 7469
              have fig12_7469 : ((0 : Int) ≤ (ig12 7469).toInt) ∧ ((ig12 7469).toInt ≤ 21) := hGg12.I.1 7469
              have efig12_7469 : (ig12 7469).toInt = (ig10 7469).toInt := kg12.ti 7469 rfl
              have efi13_7469 : (i13 7469).toInt = (ig12 7469).toInt := hL13.ti 7469 rfl
              have s14 : (l7_13 + 1).toInt = l7_13.toInt + (1 : Int32).toInt := kd_add (oz12 p13_0.1 kn1) (oz448 p13_0.2 kn1)
              refine ft_go mi_k183 5 68 [(7, .int l7_13), (6, .int l6_13), (5, .int l5_13), (4, .int vg7), (0, .ref 116), (1, .int x1), (2, .int x2), (3, .int x3)] [.int (i13 7469), .int (l7_13 + 1)] i13 a13 q13 r13 (by rfl) ?_
              refine ft_if mi_k183 (decide ((i13 7469) ≤ (l7_13 + 1))) 114 71 [(7, .int l7_13), (6, .int l6_13), (5, .int l5_13), (4, .int vg7), (0, .ref 116), (1, .int x1), (2, .int x2), (3, .int x3)] [] (by rfl) (fun c => ?_) (fun c => ?_)
              ·
                have c15 : (i13 7469).toInt ≤ (l7_13 + 1).toInt := kd_le c; clear c
                have hG16 := kG_call hGg12 hL13 (by decide +kernel)
                refine ft_go mi_k183 1 115 [(7, .int l7_13), (6, .int l6_13), (5, .int l5_13), (4, .int vg7), (0, .ref 116), (1, .int x1), (2, .int x2), (3, .int x3)] [.int x3] i13 a13 q13 r13 (by rfl) ?_
                refine ft_if mi_k183 (x3 != 0) 123 118 [(7, .int l7_13), (6, .int l6_13), (5, .int l5_13), (4, .int vg7), (0, .ref 116), (1, .int x1), (2, .int x2), (3, .int x3)] [] (by rfl) (fun c => ?_) (fun c => ?_)
                ·
                  have c17 : x3.toInt ≠ (0 : Int32).toInt := kd_ne c; clear c
                  refine ft_go mi_k183 1 125 [(7, .int l7_13), (6, .int l6_13), (5, .int l5_13), (4, .int vg7), (0, .ref 116), (1, .int x1), (2, .int x2), (3, .int x3)] [.int l6_13] i13 a13 q13 r13 (by rfl) ?_
                  exact ft_ret mi_k183 (by rfl) (hP l6_13 _ _ _ _ hG16 trivial)
                ·
                  have c18 : x3.toInt = (0 : Int32).toInt := kd_neF c; clear c
                  refine ft_go mi_k183 2 125 [(7, .int l7_13), (6, .int l6_13), (5, .int l5_13), (4, .int vg7), (0, .ref 116), (1, .int x1), (2, .int x2), (3, .int x3)] [.int l5_13] i13 a13 q13 r13 (by rfl) ?_
                  exact ft_ret mi_k183 (by rfl) (hP l5_13 _ _ _ _ hG16 trivial)
              ·
                have c19 : (l7_13 + 1).toInt < (i13 7469).toInt := kd_leF c; clear c
                refine ft_go mi_k183 2 74 [(7, .int l7_13), (6, .int l6_13), (5, .int l5_13), (4, .int vg7), (0, .ref 116), (1, .int x1), (2, .int x2), (3, .int x3)] [.int l7_13, .ref 116] i13 a13 q13 r13 (by rfl) ?_
                refine ko_callN mi_k183.1 (pc := 74) (ls := [(7, .int l7_13), (6, .int l6_13), (5, .int l5_13), (4, .int vg7), (0, .ref 116), (1, .int x1), (2, .int x2), (3, .int x3)]) (st := [.int l7_13, .ref 116]) (h := ks i13 a13 q13 r13) (i := (.invokevirtual 294, 3, 182, 0, 9, 0, 433)) (mi_k183.2 _ _ (by rfl)) (ft_invS mi_pq182 (by rfl)) (cy := mi_c182) mi_pq182 rfl (kc182_116 hL13.I hL13.R l7_13 (oz452 c19 fi13_7469.2 p13_0.1 s14 kn1)) (by decide) ?_
                intro ig20 ag20 qg20 rg20 kg20 hg20
                have hGg20 := kG_call hL13 kg20 (by decide +kernel)
                refine ft_go mi_k183 2 79 [(7, .int l7_13), (6, .int l6_13), (5, .int l5_13), (4, .int vg7), (0, .ref 116), (1, .int x1), (2, .int x2), (3, .int x3)] [.int x2, .ref 116] ig20 ag20 qg20 rg20 (by rfl) ?_
                have hG21 := kG_call hGg12 hGg20 (by decide +kernel)
                refine ko_callI mi_k183.1 (pc := 79) (ls := [(7, .int l7_13), (6, .int l6_13), (5, .int l5_13), (4, .int vg7), (0, .ref 116), (1, .int x1), (2, .int x2), (3, .int x3)]) (st := [.int x2, .ref 116]) (h := ks ig20 ag20 qg20 rg20) (i := (.invokevirtual 288, 3, 172, 0, 9, 0, 429)) (mi_k183.2 _ _ (by rfl)) (ft_invS mi_pq172 (by rfl)) (cy := mi_c172) mi_pq172 rfl (kc172_116 hGg20.I hGg20.R x2 (oz423 fi_7424.2 z4.1 z4.2) (kCode_of (i1 := ig20) hE_code (hG21.fi 7432 rfl) (hG21.fa 120 rfl) (hG21.fa 121 rfl) (hG21.fa 122 rfl) (hG21.fa 123 rfl))) (by decide) ?_
                intro vg22 ig22 ag22 qg22 rg22 kg22 hg22
                have hGg22 := kG_call hGg20 kg22 (by decide +kernel)
                refine ft_go mi_k183 3 87 [(8, .int vg22), (7, .int l7_13), (6, .int l6_13), (5, .int l5_13), (4, .int vg7), (0, .ref 116), (1, .int x1), (2, .int x2), (3, .int x3)] [.int l7_13, .ref 116] ig22 ag22 qg22 rg22 (by rfl) ?_
                refine ko_callN mi_k183.1 (pc := 87) (ls := [(8, .int vg22), (7, .int l7_13), (6, .int l6_13), (5, .int l5_13), (4, .int vg7), (0, .ref 116), (1, .int x1), (2, .int x2), (3, .int x3)]) (st := [.int l7_13, .ref 116]) (h := ks ig22 ag22 qg22 rg22) (i := (.invokevirtual 294, 3, 182, 0, 9, 0, 433)) (mi_k183.2 _ _ (by rfl)) (ft_invS mi_pq182 (by rfl)) (cy := mi_c182) mi_pq182 rfl (kc182_116 hGg22.I hGg22.R l7_13 (oz452 c19 fi13_7469.2 p13_0.1 s14 kn1)) (by decide) ?_
                intro ig23 ag23 qg23 rg23 kg23 hg23
                have hGg23 := kG_call hGg22 kg23 (by decide +kernel)
                refine ft_go mi_k183 2 94 [(8, .int vg22), (7, .int l7_13), (6, .int l6_13), (5, .int l5_13), (4, .int vg7), (0, .ref 116), (1, .int x1), (2, .int x2), (3, .int x3)] [.int l6_13, .int vg22] ig23 ag23 qg23 rg23 (by rfl) ?_
                refine ft_if mi_k183 (decide (l6_13 < vg22)) 100 97 [(8, .int vg22), (7, .int l7_13), (6, .int l6_13), (5, .int l5_13), (4, .int vg7), (0, .ref 116), (1, .int x1), (2, .int x2), (3, .int x3)] [] (by rfl) (fun c => ?_) (fun c => ?_)
                ·
                  have c24 : l6_13.toInt < vg22.toInt := kd_lt c; clear c
                  refine ft_go mi_k183 6 60 [(7, .int (l7_13 + 1)), (5, .int l7_13), (6, .int vg22), (8, .int vg22), (4, .int vg7), (0, .ref 116), (1, .int x1), (2, .int x2), (3, .int x3)] [] ig23 ag23 qg23 rg23 (by rfl) ?_
                  refine ko_perm [(7, .int (l7_13 + 1)), (6, .int vg22), (5, .int l7_13), (4, .int vg7), (0, .ref 116), (1, .int x1), (2, .int x2), (3, .int x3)] (List.forall_mem_cons.mpr ⟨(List.Mem.head _), (List.forall_mem_cons.mpr ⟨(List.Mem.tail _ (List.Mem.tail _ (List.Mem.head _))), (List.forall_mem_cons.mpr ⟨(List.Mem.tail _ (List.Mem.head _)), (List.forall_mem_cons.mpr ⟨(List.Mem.tail _ (List.Mem.tail _ (List.Mem.tail _ (List.Mem.tail _ (List.Mem.head _))))), (List.forall_mem_cons.mpr ⟨(List.Mem.tail _ (List.Mem.tail _ (List.Mem.tail _ (List.Mem.tail _ (List.Mem.tail _ (List.Mem.head _)))))), (List.forall_mem_cons.mpr ⟨(List.Mem.tail _ (List.Mem.tail _ (List.Mem.tail _ (List.Mem.tail _ (List.Mem.tail _ (List.Mem.tail _ (List.Mem.head _))))))), (List.forall_mem_cons.mpr ⟨(List.Mem.tail _ (List.Mem.tail _ (List.Mem.tail _ (List.Mem.tail _ (List.Mem.tail _ (List.Mem.tail _ (List.Mem.tail _ (List.Mem.head _)))))))), (List.forall_mem_cons.mpr ⟨(List.Mem.tail _ (List.Mem.tail _ (List.Mem.tail _ (List.Mem.tail _ (List.Mem.tail _ (List.Mem.tail _ (List.Mem.tail _ (List.Mem.tail _ (List.Mem.head _))))))))), (fun _ h => absurd h List.not_mem_nil)⟩)⟩)⟩)⟩)⟩)⟩)⟩)⟩) ?_
                  have fig23_7469 : ((0 : Int) ≤ (ig23 7469).toInt) ∧ ((ig23 7469).toInt ≤ 21) := hGg23.I.1 7469
                  have fig22_7469 : ((0 : Int) ≤ (ig22 7469).toInt) ∧ ((ig22 7469).toInt ≤ 21) := hGg22.I.1 7469
                  have fig20_7469 : ((0 : Int) ≤ (ig20 7469).toInt) ∧ ((ig20 7469).toInt ≤ 21) := hGg20.I.1 7469
                  have efig20_7469 : (ig20 7469).toInt = (i13 7469).toInt := kg20.ti 7469 rfl
                  have efig22_7469 : (ig22 7469).toInt = (ig20 7469).toInt := kg22.ti 7469 rfl
                  have efig23_7469 : (ig23 7469).toInt = (ig22 7469).toInt := kg23.ti 7469 rfl
                  exact ih13 _ _ _ _ _ _ _ hGg23 (oz453 c19 fi13_7469.2 p13_0.1 s14 kn1) (oz454 efig20_7469 efig22_7469 efig23_7469 p13_1) (kj_meas (oz445 efig20_7469 efig22_7469 efig23_7469 s14 kn1) (oz455 c19 s14 kn1) hm13)
                ·
                  have c25 : vg22.toInt ≤ l6_13.toInt := kd_ltF c; clear c
                  refine ft_go mi_k183 3 60 [(7, .int (l7_13 + 1)), (8, .int vg22), (6, .int l6_13), (5, .int l5_13), (4, .int vg7), (0, .ref 116), (1, .int x1), (2, .int x2), (3, .int x3)] [] ig23 ag23 qg23 rg23 (by rfl) ?_
                  refine ko_perm [(7, .int (l7_13 + 1)), (6, .int l6_13), (5, .int l5_13), (4, .int vg7), (0, .ref 116), (1, .int x1), (2, .int x2), (3, .int x3)] (List.forall_mem_cons.mpr ⟨(List.Mem.head _), (List.forall_mem_cons.mpr ⟨(List.Mem.tail _ (List.Mem.tail _ (List.Mem.head _))), (List.forall_mem_cons.mpr ⟨(List.Mem.tail _ (List.Mem.tail _ (List.Mem.tail _ (List.Mem.head _)))), (List.forall_mem_cons.mpr ⟨(List.Mem.tail _ (List.Mem.tail _ (List.Mem.tail _ (List.Mem.tail _ (List.Mem.head _))))), (List.forall_mem_cons.mpr ⟨(List.Mem.tail _ (List.Mem.tail _ (List.Mem.tail _ (List.Mem.tail _ (List.Mem.tail _ (List.Mem.head _)))))), (List.forall_mem_cons.mpr ⟨(List.Mem.tail _ (List.Mem.tail _ (List.Mem.tail _ (List.Mem.tail _ (List.Mem.tail _ (List.Mem.tail _ (List.Mem.head _))))))), (List.forall_mem_cons.mpr ⟨(List.Mem.tail _ (List.Mem.tail _ (List.Mem.tail _ (List.Mem.tail _ (List.Mem.tail _ (List.Mem.tail _ (List.Mem.tail _ (List.Mem.head _)))))))), (List.forall_mem_cons.mpr ⟨(List.Mem.tail _ (List.Mem.tail _ (List.Mem.tail _ (List.Mem.tail _ (List.Mem.tail _ (List.Mem.tail _ (List.Mem.tail _ (List.Mem.tail _ (List.Mem.head _))))))))), (fun _ h => absurd h List.not_mem_nil)⟩)⟩)⟩)⟩)⟩)⟩)⟩)⟩) ?_
                  have fig23_7469 : ((0 : Int) ≤ (ig23 7469).toInt) ∧ ((ig23 7469).toInt ≤ 21) := hGg23.I.1 7469
                  have fig22_7469 : ((0 : Int) ≤ (ig22 7469).toInt) ∧ ((ig22 7469).toInt ≤ 21) := hGg22.I.1 7469
                  have fig20_7469 : ((0 : Int) ≤ (ig20 7469).toInt) ∧ ((ig20 7469).toInt ≤ 21) := hGg20.I.1 7469
                  have efig20_7469 : (ig20 7469).toInt = (i13 7469).toInt := kg20.ti 7469 rfl
                  have efig22_7469 : (ig22 7469).toInt = (ig20 7469).toInt := kg22.ti 7469 rfl
                  have efig23_7469 : (ig23 7469).toInt = (ig22 7469).toInt := kg23.ti 7469 rfl
                  exact ih13 _ _ _ _ _ _ _ hGg23 (oz453 c19 fi13_7469.2 p13_0.1 s14 kn1) (oz454 efig20_7469 efig22_7469 efig23_7469 p13_1) (kj_meas (oz445 efig20_7469 efig22_7469 efig23_7469 s14 kn1) (oz455 c19 s14 kn1) hm13)
          have fig12_7469 : ((0 : Int) ≤ (ig12 7469).toInt) ∧ ((ig12 7469).toInt ≤ 21) := hGg12.I.1 7469
          have efig12_7469 : (ig12 7469).toInt = (ig10 7469).toInt := kg12.ti 7469 rfl
          exact lp13 _ _ _ _ _ _ _ _ (kG_self _ hGg12.I hGg12.R) (oz456 kn0) (oz457 efig12_7469 z11) (Nat.lt_succ_self _)
        ·
          have c26 : vg7.toInt < (0 : Int32).toInt := kd_leF c; clear c
          refine ft_go mi_k183 1 40 [(4, .int vg7), (0, .ref 116), (1, .int x1), (2, .int x2), (3, .int x3)] [.int vg7] i a q r (by rfl) ?_
          exact ft_ret mi_k183 (by rfl) (hP vg7 _ _ _ _ hG trivial)
      ·
        subst eg5
        have z27 : ¬ (((0 : Int32).toInt ≤ x3.toInt) ∧ (x3.toInt ≤ (1 : Int32).toInt)) := hg5
        refine ft_go mi_k183 2 25 [(0, .ref 116), (1, .int x1), (2, .int x2), (3, .int x3)] [.int (-1)] i a q r (by rfl) ?_
        exact ft_ret mi_k183 (by rfl) (hP (-1) _ _ _ _ hG trivial)
    ·
      subst eg3
      have fi_7424 : ((0 : Int) ≤ (i 7424).toInt) ∧ ((i 7424).toInt ≤ 8) := hG.I.1 7424
      have z28 : ¬ (((0 : Int) ≤ x2.toInt) ∧ (x2.toInt < (i 7424).toInt)) := hg3
      refine ft_go mi_k183 2 25 [(0, .ref 116), (1, .int x1), (2, .int x2), (3, .int x3)] [.int (-1)] i a q r (by rfl) ?_
      exact ft_ret mi_k183 (by rfl) (hP (-1) _ _ _ _ hG trivial)
  ·
    subst eg1
    have z29 : ¬ (((0 : Int) ≤ x1.toInt) ∧ (x1.toInt ≤ 5)) := hg1
    refine ft_go mi_k183 2 25 [(0, .ref 116), (1, .int x1), (2, .int x2), (3, .int x3)] [.int (-1)] i a q r (by rfl) ?_
    exact ft_ret mi_k183 (by rfl) (hP (-1) _ _ _ _ hG trivial)
set_option maxRecDepth 100000 in
theorem kc186_116 {i : Nat → Int32} {a : Nat → List Int32} {q : Nat → List Int64} {r : Nat → Nat} (hI : kI i a q) (hr : kr r) (x1 : Int32) : km 5 186 [.ref 116, .int x1] (ks i a q r) (kPI (ks i a q r) (fun v => (v = 1 ∧ (((0 : Int) ≤ x1.toInt) ∧ (((x1.toInt / 10) < (i 7424).toInt) ∧ ((x1.toInt % 10) < (i 7424).toInt)) ∧ ((x1.toInt / 10) ≠ (x1.toInt % 10)))) ∨ (v = 0 ∧ (¬ (((0 : Int) ≤ x1.toInt) ∧ (((x1.toInt / 10) < (i 7424).toInt) ∧ ((x1.toInt % 10) < (i 7424).toInt)) ∧ ((x1.toInt / 10) ≠ (x1.toInt % 10))))))) := by
  have hG := kG_self kW0 hI hr
  refine km_ofPI (q := (mi_h186, mi_c186)) rfl (by decide) (Nat.le_of_ble_eq_true rfl) ?_
  intro P hP
  refine ft_go mi_k186 1 1 [(0, .ref 116), (1, .int x1)] [.int x1] i a q r (by rfl) ?_
  refine ft_if mi_k186 (decide (x1 < 0)) 41 4 [(0, .ref 116), (1, .int x1)] [] (by rfl) (fun c => ?_) (fun c => ?_)
  ·
    have c1 : x1.toInt < (0 : Int32).toInt := kd_lt c; clear c
    refine ft_go mi_k186 1 42 [(0, .ref 116), (1, .int x1)] [.int 0] i a q r (by rfl) ?_
    have fi_7424 : ((0 : Int) ≤ (i 7424).toInt) ∧ ((i 7424).toInt ≤ 8) := hG.I.1 7424
    exact ft_ret mi_k186 (by rfl) (hP 0 (Or.inr ⟨rfl, (oz458 c1 kn0)⟩))
  ·
    have c2 : (0 : Int32).toInt ≤ x1.toInt := kd_ltF c; clear c
    have s3 : (x1 / 10).toInt = (x1.toInt / 10) := kd_div 10 kn10 (by decide) (oz389 c2 kn0)
    refine ft_go mi_k186 4 9 [(0, .ref 116), (1, .int x1)] [.int (x1 / 10), .ref 116] i a q r (by rfl) ?_
    refine ko_callPI mi_k186.1 (pc := 9) (ls := [(0, .ref 116), (1, .int x1)]) (st := [.int (x1 / 10), .ref 116]) (h := ks i a q r) (i := (.invokevirtual 137, 3, 132, 0, 9, 0, 387)) (mi_k186.2 _ _ (by rfl)) (ft_invS mi_pq132 (by rfl)) (cy := mi_c132) mi_pq132 rfl (kc132_116 hG.I hG.R (x1 / 10)) (by decide) ?_
    intro vg4 hg4
    rcases hg4 with ⟨eg4, hg4⟩ | ⟨eg4, hg4⟩
    ·
      subst eg4
      have fi_7424 : ((0 : Int) ≤ (i 7424).toInt) ∧ ((i 7424).toInt ≤ 8) := hG.I.1 7424
      have z5 : ((0 : Int) ≤ (x1 / 10).toInt) ∧ ((x1 / 10).toInt < (i 7424).toInt) := hg4
      have s6 : (x1 - x1 / 10 * 10).toInt = (x1.toInt % 10) := kd_rem 10 kn10 (by decide) (oz389 c2 kn0)
      refine ft_go mi_k186 5 20 [(0, .ref 116), (1, .int x1)] [.int (x1 - x1 / 10 * 10), .ref 116] i a q r (by rfl) ?_
      refine ko_callPI mi_k186.1 (pc := 20) (ls := [(0, .ref 116), (1, .int x1)]) (st := [.int (x1 - x1 / 10 * 10), .ref 116]) (h := ks i a q r) (i := (.invokevirtual 137, 3, 132, 0, 9, 0, 387)) (mi_k186.2 _ _ (by rfl)) (ft_invS mi_pq132 (by rfl)) (cy := mi_c132) mi_pq132 rfl (kc132_116 hG.I hG.R (x1 - x1 / 10 * 10)) (by decide) ?_
      intro vg7 hg7
      rcases hg7 with ⟨eg7, hg7⟩ | ⟨eg7, hg7⟩
      ·
        subst eg7
        have z8 : ((0 : Int) ≤ (x1 - x1 / 10 * 10).toInt) ∧ ((x1 - x1 / 10 * 10).toInt < (i 7424).toInt) := hg7
        refine ft_go mi_k186 7 34 [(0, .ref 116), (1, .int x1)] [.int (x1 - x1 / 10 * 10), .int (x1 / 10)] i a q r (by rfl) ?_
        refine ft_if mi_k186 ((x1 / 10) == (x1 - x1 / 10 * 10)) 41 37 [(0, .ref 116), (1, .int x1)] [] (by rfl) (fun c => ?_) (fun c => ?_)
        ·
          have c9 : (x1 / 10).toInt = (x1 - x1 / 10 * 10).toInt := kd_eq c; clear c
          refine ft_go mi_k186 1 42 [(0, .ref 116), (1, .int x1)] [.int 0] i a q r (by rfl) ?_
          exact ft_ret mi_k186 (by rfl) (hP 0 (Or.inr ⟨rfl, (oz459 c9 s3 s6)⟩))
        ·
          have c10 : (x1 / 10).toInt ≠ (x1 - x1 / 10 * 10).toInt := kd_eqF c; clear c
          refine ft_go mi_k186 2 42 [(0, .ref 116), (1, .int x1)] [.int 1] i a q r (by rfl) ?_
          exact ft_ret mi_k186 (by rfl) (hP 1 (Or.inl ⟨rfl, (oz460 c10 c2 s3 s6 z5.2 z8.2 kn0)⟩))
      ·
        subst eg7
        have z11 : ¬ (((0 : Int) ≤ (x1 - x1 / 10 * 10).toInt) ∧ ((x1 - x1 / 10 * 10).toInt < (i 7424).toInt)) := hg7
        refine ft_go mi_k186 2 42 [(0, .ref 116), (1, .int x1)] [.int 0] i a q r (by rfl) ?_
        exact ft_ret mi_k186 (by rfl) (hP 0 (Or.inr ⟨rfl, (oz461 s6 z11)⟩))
    ·
      subst eg4
      have fi_7424 : ((0 : Int) ≤ (i 7424).toInt) ∧ ((i 7424).toInt ≤ 8) := hG.I.1 7424
      have z12 : ¬ (((0 : Int) ≤ (x1 / 10).toInt) ∧ ((x1 / 10).toInt < (i 7424).toInt)) := hg4
      refine ft_go mi_k186 2 42 [(0, .ref 116), (1, .int x1)] [.int 0] i a q r (by rfl) ?_
      exact ft_ret mi_k186 (by rfl) (hP 0 (Or.inr ⟨rfl, (oz462 c2 s3 z12 kn0)⟩))
def w187_116 : kW := ([7464, 7465, 7466, 7467, 7469], [118, 128, 129, 139, 141, 142, 143, 144, 145], [], [])
set_option maxRecDepth 100000 in
theorem kc187_116 {i : Nat → Int32} {a : Nat → List Int32} {q : Nat → List Int64} {r : Nat → Nat} (hI : kI i a q) (hr : kr r) (x1 : Int32) (x2 : Int32) (hE_code : kCode i a) : km 15 187 [.ref 116, .int x1, .int x2] (ks i a q r) (kVI w187_116 i a q r (fun v i1 a1 q1 r1 => True)) := by
  have hG := kG_self w187_116 hI hr
  refine km_ofI (q := (mi_h187, mi_c187)) rfl (by decide) (Nat.le_of_ble_eq_true rfl) ?_
  intro P hP
  refine ft_go mi_k187 1 1 [(0, .ref 116), (1, .int x1), (2, .int x2)] [.int x1] i a q r (by rfl) ?_
  refine ko_callPI mi_k187.1 (pc := 1) (ls := [(0, .ref 116), (1, .int x1), (2, .int x2)]) (st := [.int x1]) (h := ks i a q r) (i := (.invokestatic 127, 3, 133, 0, 9, 0, 382)) (mi_k187.2 _ _ (by rfl)) (ft_invS mi_pq133 (by rfl)) (cy := mi_c133) mi_pq133 rfl (kc133 hG.I hG.R x1) (by decide) ?_
  intro vg1 hg1
  rcases hg1 with ⟨eg1, hg1⟩ | ⟨eg1, hg1⟩
  ·
    subst eg1
    have z2 : ((0 : Int) ≤ x1.toInt) ∧ (x1.toInt ≤ 5) := hg1
    refine ft_go mi_k187 3 9 [(0, .ref 116), (1, .int x1), (2, .int x2)] [.int x2, .ref 116] i a q r (by rfl) ?_
    refine ko_callPI mi_k187.1 (pc := 9) (ls := [(0, .ref 116), (1, .int x1), (2, .int x2)]) (st := [.int x2, .ref 116]) (h := ks i a q r) (i := (.invokevirtual 308, 3, 186, 0, 9, 0, 438)) (mi_k187.2 _ _ (by rfl)) (ft_invS mi_pq186 (by rfl)) (cy := mi_c186) mi_pq186 rfl (kc186_116 hG.I hG.R x2) (by decide) ?_
    intro vg3 hg3
    rcases hg3 with ⟨eg3, hg3⟩ | ⟨eg3, hg3⟩
    ·
      subst eg3
      have fi_7424 : ((0 : Int) ≤ (i 7424).toInt) ∧ ((i 7424).toInt ≤ 8) := hG.I.1 7424
      have z4 : ((0 : Int) ≤ x2.toInt) ∧ (((x2.toInt / 10) < (i 7424).toInt) ∧ ((x2.toInt % 10) < (i 7424).toInt)) ∧ ((x2.toInt / 10) ≠ (x2.toInt % 10)) := hg3
      refine ft_go mi_k187 3 19 [(0, .ref 116), (1, .int x1), (2, .int x2)] [.int x1, .ref 116] i a q r (by rfl) ?_
      refine ko_callPI mi_k187.1 (pc := 19) (ls := [(0, .ref 116), (1, .int x1), (2, .int x2)]) (st := [.int x1, .ref 116]) (h := ks i a q r) (i := (.invokevirtual 276, 3, 173, 0, 9, 0, 410)) (mi_k187.2 _ _ (by rfl)) (ft_invS mi_pq173 (by rfl)) (cy := mi_c173) mi_pq173 rfl (kc173_116 hG.I hG.R x1 (oz35 z2.1 z2.2)) (by decide) ?_
      intro vg5 hg5
      have z6 : (vg5.toInt < 0) ∨ (vg5.toInt = 0) := hg5
      refine ft_go mi_k187 2 24 [(3, .int vg5), (0, .ref 116), (1, .int x1), (2, .int x2)] [.int vg5] i a q r (by rfl) ?_
      refine ft_if mi_k187 (decide (0 ≤ vg5)) 29 27 [(3, .int vg5), (0, .ref 116), (1, .int x1), (2, .int x2)] [] (by rfl) (fun c => ?_) (fun c => ?_)
      ·
        have c7 : (0 : Int32).toInt ≤ vg5.toInt := kd_le c; clear c
        refine ft_go mi_k187 2 31 [(3, .int vg5), (0, .ref 116), (1, .int x1), (2, .int x2)] [.int x1, .ref 116] i a q r (by rfl) ?_
        refine ko_callN mi_k187.1 (pc := 31) (ls := [(3, .int vg5), (0, .ref 116), (1, .int x1), (2, .int x2)]) (st := [.int x1, .ref 116]) (h := ks i a q r) (i := (.invokevirtual 279, 3, 174, 0, 9, 0, 411)) (mi_k187.2 _ _ (by rfl)) (ft_invS mi_pq174 (by rfl)) (cy := mi_c174) mi_pq174 rfl (kc174_116 hG.I hG.R x1 (oz35 z2.1 z2.2)) (by decide) ?_
        intro ig8 ag8 qg8 rg8 kg8 hg8
        have hGg8 := kG_call hG kg8 (by decide +kernel)
        have fig8_7469 : ((0 : Int) ≤ (ig8 7469).toInt) ∧ ((ig8 7469).toInt ≤ 21) := hGg8.I.1 7469
        have z9 : (ig8 7469).toInt ≤ 20 := hg8
        refine ft_go mi_k187 2 36 [(3, .int vg5), (0, .ref 116), (1, .int x1), (2, .int x2)] [.int 0, .ref 116] ig8 ag8 qg8 rg8 (by rfl) ?_
        refine ko_callI mi_k187.1 (pc := 36) (ls := [(3, .int vg5), (0, .ref 116), (1, .int x1), (2, .int x2)]) (st := [.int 0, .ref 116]) (h := ks ig8 ag8 qg8 rg8) (i := (.invokevirtual 288, 3, 172, 0, 9, 0, 429)) (mi_k187.2 _ _ (by rfl)) (ft_invS mi_pq172 (by rfl)) (cy := mi_c172) mi_pq172 rfl (kc172_116 hGg8.I hGg8.R 0 (oz463 kn0) (kCode_of (i1 := ig8) hE_code (hGg8.fi 7432 rfl) (hGg8.fa 120 rfl) (hGg8.fa 121 rfl) (hGg8.fa 122 rfl) (hGg8.fa 123 rfl))) (by decide) ?_
        intro vg10 ig10 ag10 qg10 rg10 kg10 hg10
        have hGg10 := kG_call hGg8 kg10 (by decide +kernel)
        have s11 : (x2 / 10).toInt = (x2.toInt / 10) := kd_div 10 kn10 (by decide) (oz3 z4.1)
        have s12 : (8 * (x2 / 10)).toInt = 8 * (x2 / 10).toInt := kd_cmul 8 kn8 (oz464 s11 z4.1) (oz465 fi_7424.2 s11 z4.2.1.1 z4.2.1.2 z4.2.2)
        have s13 : (x2 - x2 / 10 * 10).toInt = (x2.toInt % 10) := kd_rem 10 kn10 (by decide) (oz3 z4.1)
        have s14 : ((8 * (x2 / 10)) + (x2 - x2 / 10 * 10)).toInt = (8 * (x2 / 10)).toInt + (x2 - x2 / 10 * 10).toInt := kd_add (oz466 s11 s12 s13 z4.1) (oz467 fi_7424.2 s11 s12 s13 z4.2.1.1 z4.2.1.2 z4.2.2)
        refine ft_go mi_k187 12 56 [(3, .int vg5), (0, .ref 116), (1, .int x1), (2, .int x2)] [.int ((8 * (x2 / 10)) + (x2 - x2 / 10 * 10)), .ref 141] ig10 ag10 qg10 rg10 (by rfl) ?_
        refine ko_iald3 mi_k187.1 (n := 64) (c := 64) (ax := (0, 0, 0, 0, 0)) (mi_k187.2 _ _ (by rfl)) (by rfl) (ksG141 _ _ _ _) (hGg10.I.2.1 141) rfl (oz468 s11 s12 s13 s14 z4.1) (oz469 fi_7424.2 s11 s12 s13 s14 z4.2.1.1 z4.2.1.2 z4.2.2) ?_
        exact ft_ret mi_k187 (by rfl) (hP ((ag10 141).getD ((8 * (x2 / 10)) + (x2 - x2 / 10 * 10)).toNatClampNeg 0) _ _ _ _ hGg10 trivial)
      ·
        have c15 : vg5.toInt < (0 : Int32).toInt := kd_leF c; clear c
        refine ft_go mi_k187 1 28 [(3, .int vg5), (0, .ref 116), (1, .int x1), (2, .int x2)] [.int vg5] i a q r (by rfl) ?_
        exact ft_ret mi_k187 (by rfl) (hP vg5 _ _ _ _ hG trivial)
    ·
      subst eg3
      have fi_7424 : ((0 : Int) ≤ (i 7424).toInt) ∧ ((i 7424).toInt ≤ 8) := hG.I.1 7424
      have z16 : ¬ (((0 : Int) ≤ x2.toInt) ∧ (((x2.toInt / 10) < (i 7424).toInt) ∧ ((x2.toInt % 10) < (i 7424).toInt)) ∧ ((x2.toInt / 10) ≠ (x2.toInt % 10))) := hg3
      refine ft_go mi_k187 2 16 [(0, .ref 116), (1, .int x1), (2, .int x2)] [.int (-1)] i a q r (by rfl) ?_
      exact ft_ret mi_k187 (by rfl) (hP (-1) _ _ _ _ hG trivial)
  ·
    subst eg1
    have z17 : ¬ (((0 : Int) ≤ x1.toInt) ∧ (x1.toInt ≤ 5)) := hg1
    refine ft_go mi_k187 2 16 [(0, .ref 116), (1, .int x1), (2, .int x2)] [.int (-1)] i a q r (by rfl) ?_
    exact ft_ret mi_k187 (by rfl) (hP (-1) _ _ _ _ hG trivial)
def w188_116 : kW := ([], [148], [], [])
def w188_116_L2 : kW := ([], [148], [], [])
def w188_116_L37 : kW := ([], [148], [], [])
def w188_116_L45 : kW := ([], [148], [], [])
set_option maxRecDepth 100000 in
theorem kc188_116 {i : Nat → Int32} {a : Nat → List Int32} {q : Nat → List Int64} {r : Nat → Nat} (hI : kI i a q) (hr : kr r)  : km 1 188 [.ref 116] (ks i a q r) (kVI w188_116 i a q r (fun v i1 a1 q1 r1 => True)) := by
  have hG := kG_self w188_116 hI hr
  refine km_ofI (q := (mi_h188, mi_c188)) rfl (by decide) (Nat.le_of_ble_eq_true rfl) ?_
  intro P hP
  refine ft_go mi_k188 2 2 [(1, .int 0), (0, .ref 116)] [] i a q r (by rfl) ?_
  have lp1 : ∀ (nz : Nat) (i1 : Nat → Int32) (a1 : Nat → List Int32) (q1 : Nat → List Int64) (r1 : Nat → Nat) (l1_1 : Int32), kG w188_116_L2 i a q r i1 a1 q1 r1 → (0 : Int) ≤ l1_1.toInt → ((64 - l1_1.toInt)).toNat < nz → ko 1 (mi_h188, mi_c188) P (2, [(1, .int l1_1), (0, .ref 116)], [], (0, 0), ks i1 a1 q1 r1) := by
    intro nz
    induction nz with
    | zero =>
      intro _ _ _ _ _ _ _ hm
      exact absurd hm (Nat.not_lt_zero _)
    | succ nz ih1 =>
      intro i1 a1 q1 r1 l1_1 hL1 p1_0 hm1
      refine ft_go mi_k188 2 5 [(1, .int l1_1), (0, .ref 116)] [.int 64, .int l1_1] i1 a1 q1 r1 (by rfl) ?_
      refine ft_if mi_k188 (decide (64 ≤ l1_1)) 35 8 [(1, .int l1_1), (0, .ref 116)] [] (by rfl) (fun c => ?_) (fun c => ?_)
      ·
        have c2 : (64 : Int32).toInt ≤ l1_1.toInt := kd_le c; clear c
        have hG3 := kG_call hG hL1 (by decide +kernel)
        refine ft_go mi_k188 2 37 [(1, .int 0), (0, .ref 116)] [] i1 a1 q1 r1 (by rfl) ?_
        have lp4 : ∀ (nz : Nat) (i4 : Nat → Int32) (a4 : Nat → List Int32) (q4 : Nat → List Int64) (r4 : Nat → Nat) (l1_4 : Int32), kG w188_116_L37 i1 a1 q1 r1 i4 a4 q4 r4 → (0 : Int) ≤ l1_4.toInt → ((8 - l1_4.toInt)).toNat < nz → ko 1 (mi_h188, mi_c188) P (37, [(1, .int l1_4), (0, .ref 116)], [], (0, 0), ks i4 a4 q4 r4) := by
          intro nz
          induction nz with
          | zero =>
            intro _ _ _ _ _ _ _ hm
            exact absurd hm (Nat.not_lt_zero _)
          | succ nz ih4 =>
            intro i4 a4 q4 r4 l1_4 hL4 p4_0 hm4
            refine ft_go mi_k188 2 40 [(1, .int l1_4), (0, .ref 116)] [.int 8, .int l1_4] i4 a4 q4 r4 (by rfl) ?_
            refine ft_if mi_k188 (decide (8 ≤ l1_4)) 106 43 [(1, .int l1_4), (0, .ref 116)] [] (by rfl) (fun c => ?_) (fun c => ?_)
            ·
              have c5 : (8 : Int32).toInt ≤ l1_4.toInt := kd_le c; clear c
              have hG6 := kG_call hG3 hL4 (by decide +kernel)
              refine ft_go mi_k188 4 111 [(2, .int 0), (1, .int 99), (0, .ref 116)] [] i4 a4 q4 r4 (by rfl) ?_
              have lp7 : ∀ (nz : Nat) (l2_7 : Int32) (l1_7 : Int32), (0 : Int) ≤ l2_7.toInt → ((8 - l2_7.toInt)).toNat < nz → ko 1 (mi_h188, mi_c188) P (111, [(2, .int l2_7), (1, .int l1_7), (0, .ref 116)], [], (0, 0), ks i4 a4 q4 r4) := by
                intro nz
                induction nz with
                | zero =>
                  intro _ _ _ hm
                  exact absurd hm (Nat.not_lt_zero _)
                | succ nz ih7 =>
                  intro l2_7 l1_7 p7_0 hm7
                  refine ft_go mi_k188 2 114 [(2, .int l2_7), (1, .int l1_7), (0, .ref 116)] [.int 8, .int l2_7] i4 a4 q4 r4 (by rfl) ?_
                  refine ft_if mi_k188 (decide (8 ≤ l2_7)) 137 117 [(2, .int l2_7), (1, .int l1_7), (0, .ref 116)] [] (by rfl) (fun c => ?_) (fun c => ?_)
                  ·
                    have c8 : (8 : Int32).toInt ≤ l2_7.toInt := kd_le c; clear c
                    refine ft_go mi_k188 2 140 [(2, .int l2_7), (1, .int l1_7), (0, .ref 116)] [.int 99, .int l1_7] i4 a4 q4 r4 (by rfl) ?_
                    refine ft_if mi_k188 (l1_7 != 99) 148 143 [(2, .int l2_7), (1, .int l1_7), (0, .ref 116)] [] (by rfl) (fun c => ?_) (fun c => ?_)
                    ·
                      have c9 : l1_7.toInt ≠ (99 : Int32).toInt := kd_ne c; clear c
                      refine ft_go mi_k188 1 149 [(2, .int l2_7), (1, .int l1_7), (0, .ref 116)] [.int l1_7] i4 a4 q4 r4 (by rfl) ?_
                      exact ft_ret mi_k188 (by rfl) (hP l1_7 _ _ _ _ hG6 trivial)
                    ·
                      have c10 : l1_7.toInt = (99 : Int32).toInt := kd_neF c; clear c
                      refine ft_go mi_k188 2 149 [(2, .int l2_7), (1, .int l1_7), (0, .ref 116)] [.int (-2)] i4 a4 q4 r4 (by rfl) ?_
                      exact ft_ret mi_k188 (by rfl) (hP (-2) _ _ _ _ hG6 trivial)
                  ·
                    have c11 : l2_7.toInt < (8 : Int32).toInt := kd_leF c; clear c
                    have s12 : (9 * l2_7).toInt = 9 * l2_7.toInt := kd_cmul 9 kn9 (oz470 p7_0) (oz471 c11 kn8)
                    refine ft_go mi_k188 6 126 [(2, .int l2_7), (1, .int l1_7), (0, .ref 116)] [.int (9 * l2_7), .ref 148, .int l1_7] i4 a4 q4 r4 (by rfl) ?_
                    refine ko_iald3 mi_k188.1 (n := 64) (c := 64) (ax := (0, 0, 0, 0, 0)) (mi_k188.2 _ _ (by rfl)) (by rfl) (ksG148 _ _ _ _) (hG6.I.2.1 148) rfl (oz472 p7_0 s12) (oz473 c11 s12 kn8) ?_
                    have m14 : (((bif decide (((a4 148).getD (9 * l2_7).toNatClampNeg 0) < l1_7) then ((a4 148).getD (9 * l2_7).toNatClampNeg 0) else l1_7).toInt ≤ l1_7.toInt) ∧ ((bif decide (((a4 148).getD (9 * l2_7).toNatClampNeg 0) < l1_7) then ((a4 148).getD (9 * l2_7).toNatClampNeg 0) else l1_7).toInt ≤ ((a4 148).getD (9 * l2_7).toNatClampNeg 0).toInt)) ∧ ((bif decide (((a4 148).getD (9 * l2_7).toNatClampNeg 0) < l1_7) then ((a4 148).getD (9 * l2_7).toNatClampNeg 0) else l1_7).toInt = l1_7.toInt ∨ (bif decide (((a4 148).getD (9 * l2_7).toNatClampNeg 0) < l1_7) then ((a4 148).getD (9 * l2_7).toNatClampNeg 0) else l1_7).toInt = ((a4 148).getD (9 * l2_7).toNatClampNeg 0).toInt) := kd_min
                    refine ft_go mi_k188 1 130 [(2, .int l2_7), (1, .int l1_7), (0, .ref 116)] [.int (bif decide (((a4 148).getD (9 * l2_7).toNatClampNeg 0) < l1_7) then ((a4 148).getD (9 * l2_7).toNatClampNeg 0) else l1_7)] i4 a4 q4 r4 (by rfl) ?_
                    generalize (bif decide (((a4 148).getD (9 * l2_7).toNatClampNeg 0) < l1_7) then ((a4 148).getD (9 * l2_7).toNatClampNeg 0) else l1_7) = m13 at m14 ⊢
                    have s15 : (l2_7 + 1).toInt = l2_7.toInt + (1 : Int32).toInt := kd_add (oz12 p7_0 kn1) (oz474 c11 kn8 kn1)
                    refine ft_go mi_k188 3 111 [(2, .int (l2_7 + 1)), (1, .int m13), (0, .ref 116)] [] i4 a4 q4 r4 (by rfl) ?_
                    exact ih7 _ _ (oz14 p7_0 s15 kn1) (kj_meas (oz475 s15 kn1) (oz476 c11 kn8) hm7)
              exact lp7 _ _ _ (oz46 kn0) (Nat.lt_succ_self _)
            ·
              have c16 : l1_4.toInt < (8 : Int32).toInt := kd_leF c; clear c
              refine ft_go mi_k188 2 45 [(2, .int 0), (1, .int l1_4), (0, .ref 116)] [] i4 a4 q4 r4 (by rfl) ?_
              have lp17 : ∀ (nz : Nat) (i17 : Nat → Int32) (a17 : Nat → List Int32) (q17 : Nat → List Int64) (r17 : Nat → Nat) (l2_17 : Int32), kG w188_116_L45 i4 a4 q4 r4 i17 a17 q17 r17 → ((0 : Int) ≤ l1_4.toInt) ∧ (l1_4.toInt ≤ 7) → (0 : Int) ≤ l2_17.toInt → ((64 - l2_17.toInt)).toNat < nz → ko 1 (mi_h188, mi_c188) P (45, [(2, .int l2_17), (1, .int l1_4), (0, .ref 116)], [], (0, 0), ks i17 a17 q17 r17) := by
                intro nz
                induction nz with
                | zero =>
                  intro _ _ _ _ _ _ _ _ hm
                  exact absurd hm (Nat.not_lt_zero _)
                | succ nz ih17 =>
                  intro i17 a17 q17 r17 l2_17 hL17 p17_0 p17_1 hm17
                  refine ft_go mi_k188 2 48 [(2, .int l2_17), (1, .int l1_4), (0, .ref 116)] [.int 64, .int l2_17] i17 a17 q17 r17 (by rfl) ?_
                  refine ft_if mi_k188 (decide (64 ≤ l2_17)) 100 51 [(2, .int l2_17), (1, .int l1_4), (0, .ref 116)] [] (by rfl) (fun c => ?_) (fun c => ?_)
                  ·
                    have c18 : (64 : Int32).toInt ≤ l2_17.toInt := kd_le c; clear c
                    have hG19 := kG_call hL4 hL17 (by decide +kernel)
                    have s20 : (l1_4 + 1).toInt = l1_4.toInt + (1 : Int32).toInt := kd_add (oz12 p4_0 kn1) (oz474 c16 kn8 kn1)
                    refine ft_go mi_k188 2 37 [(1, .int (l1_4 + 1)), (2, .int l2_17), (0, .ref 116)] [] i17 a17 q17 r17 (by rfl) ?_
                    refine ko_perm [(1, .int (l1_4 + 1)), (0, .ref 116)] (List.forall_mem_cons.mpr ⟨(List.Mem.head _), (List.forall_mem_cons.mpr ⟨(List.Mem.tail _ (List.Mem.tail _ (List.Mem.head _))), (fun _ h => absurd h List.not_mem_nil)⟩)⟩) ?_
                    exact ih4 _ _ _ _ _ hG19 (oz14 p4_0 s20 kn1) (kj_meas (oz475 s20 kn1) (oz476 c16 kn8) hm4)
                  ·
                    have c21 : l2_17.toInt < (64 : Int32).toInt := kd_leF c; clear c
                    refine ft_go mi_k188 6 61 [(2, .int l2_17), (1, .int l1_4), (0, .ref 116)] [.int l2_17, .ref 148, .int l2_17, .ref 148] i17 a17 q17 r17 (by rfl) ?_
                    refine ko_iald3 mi_k188.1 (n := 64) (c := 64) (ax := (0, 0, 0, 0, 0)) (mi_k188.2 _ _ (by rfl)) (by rfl) (ksG148 _ _ _ _) (hL17.I.2.1 148) rfl (oz3 p17_1) (oz237 c21 kn64) ?_
                    have s22 : (l2_17 - l2_17 / 8 * 8).toInt = (l2_17.toInt % 8) := kd_rem 8 kn8 (by decide) (oz3 p17_1)
                    have s23 : (l2_17 - (l2_17 - l2_17 / 8 * 8)).toInt = l2_17.toInt - (l2_17 - l2_17 / 8 * 8).toInt := kd_sub (oz477 p17_1 s22) (oz478 c21 s22 kn64)
                    have s24 : ((l2_17 - (l2_17 - l2_17 / 8 * 8)) + l1_4).toInt = (l2_17 - (l2_17 - l2_17 / 8 * 8)).toInt + l1_4.toInt := kd_add (oz479 p17_1 p4_0 s22 s23) (oz480 c16 c21 s22 s23 kn8 kn64)
                    refine ft_go mi_k188 9 74 [(2, .int l2_17), (1, .int l1_4), (0, .ref 116)] [.int ((l2_17 - (l2_17 - l2_17 / 8 * 8)) + l1_4), .ref 148, .int ((a17 148).getD l2_17.toNatClampNeg 0), .int l2_17, .ref 148] i17 a17 q17 r17 (by rfl) ?_
                    refine ko_iald3 mi_k188.1 (n := 64) (c := 64) (ax := (0, 0, 0, 0, 0)) (mi_k188.2 _ _ (by rfl)) (by rfl) (ksG148 _ _ _ _) (hL17.I.2.1 148) rfl (oz481 p17_1 p4_0 s22 s23 s24) (oz482 c16 c21 s22 s23 s24 kn8 kn64) ?_
                    have s25 : (8 * l1_4).toInt = 8 * l1_4.toInt := kd_cmul 8 kn8 (oz345 p4_0) (oz483 c16 kn8)
                    have s26 : ((8 * l1_4) + (l2_17 - l2_17 / 8 * 8)).toInt = (8 * l1_4).toInt + (l2_17 - l2_17 / 8 * 8).toInt := kd_add (oz484 p4_0 s22 s25) (oz485 c16 s22 s25 kn8)
                    refine ft_go mi_k188 9 88 [(2, .int l2_17), (1, .int l1_4), (0, .ref 116)] [.int ((8 * l1_4) + (l2_17 - l2_17 / 8 * 8)), .ref 148, .int ((a17 148).getD ((l2_17 - (l2_17 - l2_17 / 8 * 8)) + l1_4).toNatClampNeg 0), .int ((a17 148).getD l2_17.toNatClampNeg 0), .int l2_17, .ref 148] i17 a17 q17 r17 (by rfl) ?_
                    refine ko_iald3 mi_k188.1 (n := 64) (c := 64) (ax := (0, 0, 0, 0, 0)) (mi_k188.2 _ _ (by rfl)) (by rfl) (ksG148 _ _ _ _) (hL17.I.2.1 148) rfl (oz486 p4_0 s22 s25 s26) (oz487 c16 s22 s25 s26 kn8) ?_
                    have b27 : ((-2147483648 : Int) ≤ ((a17 148).getD ((l2_17 - (l2_17 - l2_17 / 8 * 8)) + l1_4).toNatClampNeg 0).toInt) ∧ (((a17 148).getD ((l2_17 - (l2_17 - l2_17 / 8 * 8)) + l1_4).toNatClampNeg 0).toInt ≤ 2147483647) := kd_bd ((a17 148).getD ((l2_17 - (l2_17 - l2_17 / 8 * 8)) + l1_4).toNatClampNeg 0)
                    have b28 : ((-2147483648 : Int) ≤ ((a17 148).getD ((8 * l1_4) + (l2_17 - l2_17 / 8 * 8)).toNatClampNeg 0).toInt) ∧ (((a17 148).getD ((8 * l1_4) + (l2_17 - l2_17 / 8 * 8)).toNatClampNeg 0).toInt ≤ 2147483647) := kd_bd ((a17 148).getD ((8 * l1_4) + (l2_17 - l2_17 / 8 * 8)).toNatClampNeg 0)
                    refine ft_go mi_k188 1 90 [(2, .int l2_17), (1, .int l1_4), (0, .ref 116)] [.int (((a17 148).getD ((l2_17 - (l2_17 - l2_17 / 8 * 8)) + l1_4).toNatClampNeg 0) + ((a17 148).getD ((8 * l1_4) + (l2_17 - l2_17 / 8 * 8)).toNatClampNeg 0)), .int ((a17 148).getD l2_17.toNatClampNeg 0), .int l2_17, .ref 148] i17 a17 q17 r17 (by rfl) ?_
                    have m30 : (((bif decide ((((a17 148).getD ((l2_17 - (l2_17 - l2_17 / 8 * 8)) + l1_4).toNatClampNeg 0) + ((a17 148).getD ((8 * l1_4) + (l2_17 - l2_17 / 8 * 8)).toNatClampNeg 0)) < ((a17 148).getD l2_17.toNatClampNeg 0)) then (((a17 148).getD ((l2_17 - (l2_17 - l2_17 / 8 * 8)) + l1_4).toNatClampNeg 0) + ((a17 148).getD ((8 * l1_4) + (l2_17 - l2_17 / 8 * 8)).toNatClampNeg 0)) else ((a17 148).getD l2_17.toNatClampNeg 0)).toInt ≤ ((a17 148).getD l2_17.toNatClampNeg 0).toInt) ∧ ((bif decide ((((a17 148).getD ((l2_17 - (l2_17 - l2_17 / 8 * 8)) + l1_4).toNatClampNeg 0) + ((a17 148).getD ((8 * l1_4) + (l2_17 - l2_17 / 8 * 8)).toNatClampNeg 0)) < ((a17 148).getD l2_17.toNatClampNeg 0)) then (((a17 148).getD ((l2_17 - (l2_17 - l2_17 / 8 * 8)) + l1_4).toNatClampNeg 0) + ((a17 148).getD ((8 * l1_4) + (l2_17 - l2_17 / 8 * 8)).toNatClampNeg 0)) else ((a17 148).getD l2_17.toNatClampNeg 0)).toInt ≤ (((a17 148).getD ((l2_17 - (l2_17 - l2_17 / 8 * 8)) + l1_4).toNatClampNeg 0) + ((a17 148).getD ((8 * l1_4) + (l2_17 - l2_17 / 8 * 8)).toNatClampNeg 0)).toInt)) ∧ ((bif decide ((((a17 148).getD ((l2_17 - (l2_17 - l2_17 / 8 * 8)) + l1_4).toNatClampNeg 0) + ((a17 148).getD ((8 * l1_4) + (l2_17 - l2_17 / 8 * 8)).toNatClampNeg 0)) < ((a17 148).getD l2_17.toNatClampNeg 0)) then (((a17 148).getD ((l2_17 - (l2_17 - l2_17 / 8 * 8)) + l1_4).toNatClampNeg 0) + ((a17 148).getD ((8 * l1_4) + (l2_17 - l2_17 / 8 * 8)).toNatClampNeg 0)) else ((a17 148).getD l2_17.toNatClampNeg 0)).toInt = ((a17 148).getD l2_17.toNatClampNeg 0).toInt ∨ (bif decide ((((a17 148).getD ((l2_17 - (l2_17 - l2_17 / 8 * 8)) + l1_4).toNatClampNeg 0) + ((a17 148).getD ((8 * l1_4) + (l2_17 - l2_17 / 8 * 8)).toNatClampNeg 0)) < ((a17 148).getD l2_17.toNatClampNeg 0)) then (((a17 148).getD ((l2_17 - (l2_17 - l2_17 / 8 * 8)) + l1_4).toNatClampNeg 0) + ((a17 148).getD ((8 * l1_4) + (l2_17 - l2_17 / 8 * 8)).toNatClampNeg 0)) else ((a17 148).getD l2_17.toNatClampNeg 0)).toInt = (((a17 148).getD ((l2_17 - (l2_17 - l2_17 / 8 * 8)) + l1_4).toNatClampNeg 0) + ((a17 148).getD ((8 * l1_4) + (l2_17 - l2_17 / 8 * 8)).toNatClampNeg 0)).toInt) := kd_min
                    refine ft_go mi_k188 1 93 [(2, .int l2_17), (1, .int l1_4), (0, .ref 116)] [.int (bif decide ((((a17 148).getD ((l2_17 - (l2_17 - l2_17 / 8 * 8)) + l1_4).toNatClampNeg 0) + ((a17 148).getD ((8 * l1_4) + (l2_17 - l2_17 / 8 * 8)).toNatClampNeg 0)) < ((a17 148).getD l2_17.toNatClampNeg 0)) then (((a17 148).getD ((l2_17 - (l2_17 - l2_17 / 8 * 8)) + l1_4).toNatClampNeg 0) + ((a17 148).getD ((8 * l1_4) + (l2_17 - l2_17 / 8 * 8)).toNatClampNeg 0)) else ((a17 148).getD l2_17.toNatClampNeg 0)), .int l2_17, .ref 148] i17 a17 q17 r17 (by rfl) ?_
                    generalize (bif decide ((((a17 148).getD ((l2_17 - (l2_17 - l2_17 / 8 * 8)) + l1_4).toNatClampNeg 0) + ((a17 148).getD ((8 * l1_4) + (l2_17 - l2_17 / 8 * 8)).toNatClampNeg 0)) < ((a17 148).getD l2_17.toNatClampNeg 0)) then (((a17 148).getD ((l2_17 - (l2_17 - l2_17 / 8 * 8)) + l1_4).toNatClampNeg 0) + ((a17 148).getD ((8 * l1_4) + (l2_17 - l2_17 / 8 * 8)).toNatClampNeg 0)) else ((a17 148).getD l2_17.toNatClampNeg 0)) = m29 at m30 ⊢
                    refine ko_iast3 mi_k188.1 (n := 64) (c := 64) (ax := (0, 0, 0, 0, 0)) (mi_k188.2 _ _ (by rfl)) (by rfl) (ksG148 _ _ _ _) (ksA148 _ _ _ _) (hL17.I.2.1 148) rfl (oz3 p17_1) (oz237 c21 kn64) ?_
                    intro a31 ea31 fa31
                    have hJ31 := kG_a3 hL17 148 rfl ea31 fa31 (kd_bd _)
                    have s32 : (l2_17 + 1).toInt = l2_17.toInt + (1 : Int32).toInt := kd_add (oz12 p17_1 kn1) (oz238 c21 kn64 kn1)
                    refine ft_go mi_k188 2 45 [(2, .int (l2_17 + 1)), (1, .int l1_4), (0, .ref 116)] [] i17 a31 q17 r17 (by rfl) ?_
                    exact ih17 _ _ _ _ _ hJ31 (oz488 c16 p4_0 kn8) (oz14 p17_1 s32 kn1) (kj_meas (oz239 s32 kn1) (oz240 c21 kn64) hm17)
              exact lp17 _ _ _ _ _ _ (kG_self _ hL4.I hL4.R) (oz488 c16 p4_0 kn8) (oz46 kn0) (Nat.lt_succ_self _)
        exact lp4 _ _ _ _ _ _ (kG_self _ hG3.I hG3.R) (oz46 kn0) (Nat.lt_succ_self _)
      ·
        have c33 : l1_1.toInt < (64 : Int32).toInt := kd_leF c; clear c
        refine ft_go mi_k188 6 18 [(1, .int l1_1), (0, .ref 116)] [.int l1_1, .ref 141, .int l1_1, .ref 148] i1 a1 q1 r1 (by rfl) ?_
        refine ko_iald3 mi_k188.1 (n := 64) (c := 64) (ax := (0, 0, 0, 0, 0)) (mi_k188.2 _ _ (by rfl)) (by rfl) (ksG141 _ _ _ _) (hL1.I.2.1 141) rfl (oz3 p1_0) (oz237 c33 kn64) ?_
        refine ft_if mi_k188 (decide (((a1 141).getD l1_1.toNatClampNeg 0) ≤ 0)) 26 22 [(1, .int l1_1), (0, .ref 116)] [.int l1_1, .ref 148] (by rfl) (fun c => ?_) (fun c => ?_)
        ·
          have c34 : ((a1 141).getD l1_1.toNatClampNeg 0).toInt ≤ (0 : Int32).toInt := kd_le c; clear c
          refine ft_go mi_k188 1 28 [(1, .int l1_1), (0, .ref 116)] [.int 99, .int l1_1, .ref 148] i1 a1 q1 r1 (by rfl) ?_
          refine ko_iast3 mi_k188.1 (n := 64) (c := 64) (ax := (0, 0, 0, 0, 0)) (mi_k188.2 _ _ (by rfl)) (by rfl) (ksG148 _ _ _ _) (ksA148 _ _ _ _) (hL1.I.2.1 148) rfl (oz3 p1_0) (oz237 c33 kn64) ?_
          intro a35 ea35 fa35
          have hJ35 := kG_a3 hL1 148 rfl ea35 fa35 (kd_bd _)
          have s36 : (l1_1 + 1).toInt = l1_1.toInt + (1 : Int32).toInt := kd_add (oz12 p1_0 kn1) (oz238 c33 kn64 kn1)
          refine ft_go mi_k188 2 2 [(1, .int (l1_1 + 1)), (0, .ref 116)] [] i1 a35 q1 r1 (by rfl) ?_
          exact ih1 _ _ _ _ _ hJ35 (oz14 p1_0 s36 kn1) (kj_meas (oz239 s36 kn1) (oz240 c33 kn64) hm1)
        ·
          have c37 : (0 : Int32).toInt < ((a1 141).getD l1_1.toNatClampNeg 0).toInt := kd_leF c; clear c
          refine ft_go mi_k188 2 28 [(1, .int l1_1), (0, .ref 116)] [.int 1, .int l1_1, .ref 148] i1 a1 q1 r1 (by rfl) ?_
          refine ko_iast3 mi_k188.1 (n := 64) (c := 64) (ax := (0, 0, 0, 0, 0)) (mi_k188.2 _ _ (by rfl)) (by rfl) (ksG148 _ _ _ _) (ksA148 _ _ _ _) (hL1.I.2.1 148) rfl (oz3 p1_0) (oz237 c33 kn64) ?_
          intro a38 ea38 fa38
          have hJ38 := kG_a3 hL1 148 rfl ea38 fa38 (kd_bd _)
          have s39 : (l1_1 + 1).toInt = l1_1.toInt + (1 : Int32).toInt := kd_add (oz12 p1_0 kn1) (oz238 c33 kn64 kn1)
          refine ft_go mi_k188 2 2 [(1, .int (l1_1 + 1)), (0, .ref 116)] [] i1 a38 q1 r1 (by rfl) ?_
          exact ih1 _ _ _ _ _ hJ38 (oz14 p1_0 s39 kn1) (kj_meas (oz239 s39 kn1) (oz240 c33 kn64) hm1)
  exact lp1 _ _ _ _ _ _ (kG_self _ hG.I hG.R) (oz46 kn0) (Nat.lt_succ_self _)
def w189_116 : kW := ([7464, 7465, 7466, 7467, 7469], [118, 128, 129, 139, 141, 142, 143, 144, 145, 148], [], [])
set_option maxRecDepth 100000 in
theorem kc189_116 {i : Nat → Int32} {a : Nat → List Int32} {q : Nat → List Int64} {r : Nat → Nat} (hI : kI i a q) (hr : kr r) (x1 : Int32) (x2 : Int32) (hE_code : kCode i a) : km 13 189 [.ref 116, .int x1, .int x2] (ks i a q r) (kVI w189_116 i a q r (fun v i1 a1 q1 r1 => True)) := by
  have hG := kG_self w189_116 hI hr
  refine km_ofI (q := (mi_h189, mi_c189)) rfl (by decide) (Nat.le_of_ble_eq_true rfl) ?_
  intro P hP
  refine ft_go mi_k189 1 1 [(0, .ref 116), (1, .int x1), (2, .int x2)] [.int x1] i a q r (by rfl) ?_
  refine ko_callPI mi_k189.1 (pc := 1) (ls := [(0, .ref 116), (1, .int x1), (2, .int x2)]) (st := [.int x1]) (h := ks i a q r) (i := (.invokestatic 127, 3, 133, 0, 9, 0, 382)) (mi_k189.2 _ _ (by rfl)) (ft_invS mi_pq133 (by rfl)) (cy := mi_c133) mi_pq133 rfl (kc133 hG.I hG.R x1) (by decide) ?_
  intro vg1 hg1
  rcases hg1 with ⟨eg1, hg1⟩ | ⟨eg1, hg1⟩
  ·
    subst eg1
    have z2 : ((0 : Int) ≤ x1.toInt) ∧ (x1.toInt ≤ 5) := hg1
    refine ft_go mi_k189 4 10 [(0, .ref 116), (1, .int x1), (2, .int x2)] [.int 1, .int 0, .int x2] i a q r (by rfl) ?_
    refine ko_callPI mi_k189.1 (pc := 10) (ls := [(0, .ref 116), (1, .int x1), (2, .int x2)]) (st := [.int 1, .int 0, .int x2]) (h := ks i a q r) (i := (.invokestatic 119, 3, 131, 0, 9, 0, 379)) (mi_k189.2 _ _ (by rfl)) (ft_invS mi_pq131 (by rfl)) (cy := mi_c131) mi_pq131 rfl (kc131 hG.I hG.R x2 0 1) (by decide) ?_
    intro vg3 hg3
    rcases hg3 with ⟨eg3, hg3⟩ | ⟨eg3, hg3⟩
    ·
      subst eg3
      have z4 : ((0 : Int32).toInt ≤ x2.toInt) ∧ (x2.toInt ≤ (1 : Int32).toInt) := hg3
      refine ft_go mi_k189 3 20 [(0, .ref 116), (1, .int x1), (2, .int x2)] [.int x1, .ref 116] i a q r (by rfl) ?_
      refine ko_callPI mi_k189.1 (pc := 20) (ls := [(0, .ref 116), (1, .int x1), (2, .int x2)]) (st := [.int x1, .ref 116]) (h := ks i a q r) (i := (.invokevirtual 276, 3, 173, 0, 9, 0, 410)) (mi_k189.2 _ _ (by rfl)) (ft_invS mi_pq173 (by rfl)) (cy := mi_c173) mi_pq173 rfl (kc173_116 hG.I hG.R x1 (oz35 z2.1 z2.2)) (by decide) ?_
      intro vg5 hg5
      have z6 : (vg5.toInt < 0) ∨ (vg5.toInt = 0) := hg5
      refine ft_go mi_k189 2 25 [(3, .int vg5), (0, .ref 116), (1, .int x1), (2, .int x2)] [.int vg5] i a q r (by rfl) ?_
      refine ft_if mi_k189 (decide (0 ≤ vg5)) 30 28 [(3, .int vg5), (0, .ref 116), (1, .int x1), (2, .int x2)] [] (by rfl) (fun c => ?_) (fun c => ?_)
      ·
        have c7 : (0 : Int32).toInt ≤ vg5.toInt := kd_le c; clear c
        have fi_7424 : ((0 : Int) ≤ (i 7424).toInt) ∧ ((i 7424).toInt ≤ 8) := hG.I.1 7424
        refine ft_go mi_k189 2 34 [(3, .int vg5), (0, .ref 116), (1, .int x1), (2, .int x2)] [.int (i 7424)] i a q r (by rfl) ?_
        refine ft_if mi_k189 ((i 7424) != 0) 40 37 [(3, .int vg5), (0, .ref 116), (1, .int x1), (2, .int x2)] [] (by rfl) (fun c => ?_) (fun c => ?_)
        ·
          have c8 : (i 7424).toInt ≠ (0 : Int32).toInt := kd_ne c; clear c
          refine ft_go mi_k189 2 42 [(3, .int vg5), (0, .ref 116), (1, .int x1), (2, .int x2)] [.int x1, .ref 116] i a q r (by rfl) ?_
          refine ko_callN mi_k189.1 (pc := 42) (ls := [(3, .int vg5), (0, .ref 116), (1, .int x1), (2, .int x2)]) (st := [.int x1, .ref 116]) (h := ks i a q r) (i := (.invokevirtual 279, 3, 174, 0, 9, 0, 411)) (mi_k189.2 _ _ (by rfl)) (ft_invS mi_pq174 (by rfl)) (cy := mi_c174) mi_pq174 rfl (kc174_116 hG.I hG.R x1 (oz35 z2.1 z2.2)) (by decide) ?_
          intro ig9 ag9 qg9 rg9 kg9 hg9
          have hGg9 := kG_call hG kg9 (by decide +kernel)
          have fig9_7469 : ((0 : Int) ≤ (ig9 7469).toInt) ∧ ((ig9 7469).toInt ≤ 21) := hGg9.I.1 7469
          have z10 : (ig9 7469).toInt ≤ 20 := hg9
          refine ft_go mi_k189 1 46 [(3, .int vg5), (0, .ref 116), (1, .int x1), (2, .int x2)] [.ref 116] ig9 ag9 qg9 rg9 (by rfl) ?_
          refine ko_callN mi_k189.1 (pc := 46) (ls := [(3, .int vg5), (0, .ref 116), (1, .int x1), (2, .int x2)]) (st := [.ref 116]) (h := ks ig9 ag9 qg9 rg9) (i := (.invokevirtual 267, 3, 171, 0, 9, 0, 412)) (mi_k189.2 _ _ (by rfl)) (ft_invS mi_pq171 (by rfl)) (cy := mi_c171) mi_pq171 rfl (kc171_116 hGg9.I hGg9.R ) (by decide) ?_
          intro ig11 ag11 qg11 rg11 kg11 hg11
          have hGg11 := kG_call hGg9 kg11 (by decide +kernel)
          refine ft_go mi_k189 1 50 [(3, .int vg5), (0, .ref 116), (1, .int x1), (2, .int x2)] [.ref 116] ig11 ag11 qg11 rg11 (by rfl) ?_
          refine ko_callN mi_k189.1 (pc := 50) (ls := [(3, .int vg5), (0, .ref 116), (1, .int x1), (2, .int x2)]) (st := [.ref 116]) (h := ks ig11 ag11 qg11 rg11) (i := (.invokevirtual 270, 3, 170, 0, 9, 0, 414)) (mi_k189.2 _ _ (by rfl)) (ft_invS mi_pq170 (by rfl)) (cy := mi_c170) mi_pq170 rfl (kc170_116 hGg11.I hGg11.R (kCode_of (i1 := ig11) hE_code (hGg11.fi 7432 rfl) (hGg11.fa 120 rfl) (hGg11.fa 121 rfl) (hGg11.fa 122 rfl) (hGg11.fa 123 rfl))) (by decide) ?_
          intro ig12 ag12 qg12 rg12 kg12 hg12
          have hGg12 := kG_call hGg11 kg12 (by decide +kernel)
          refine ft_go mi_k189 4 59 [(5, .int 1), (4, .int 0), (3, .int vg5), (0, .ref 116), (1, .int x1), (2, .int x2)] [] ig12 ag12 qg12 rg12 (by rfl) ?_
          have lp13 : ∀ (nz : Nat) (l5_13 : Int32) (l4_13 : Int32), ((0 : Int) ≤ l4_13.toInt) ∧ (l4_13.toInt ≤ 7) → (1 : Int) ≤ l5_13.toInt → (((ig12 7424).toInt - l5_13.toInt)).toNat < nz → ko 13 (mi_h189, mi_c189) P (59, [(5, .int l5_13), (4, .int l4_13), (3, .int vg5), (0, .ref 116), (1, .int x1), (2, .int x2)], [], (0, 0), ks ig12 ag12 qg12 rg12) := by
            intro nz
            induction nz with
            | zero =>
              intro _ _ _ _ hm
              exact absurd hm (Nat.not_lt_zero _)
            | succ nz ih13 =>
              intro l5_13 l4_13 p13_0 p13_1 hm13
              have fig12_7424 : ((0 : Int) ≤ (ig12 7424).toInt) ∧ ((ig12 7424).toInt ≤ 8) := hGg12.I.1 7424
              have fig11_7424 : ((0 : Int) ≤ (ig11 7424).toInt) ∧ ((ig11 7424).toInt ≤ 8) := hGg11.I.1 7424
              have fig9_7424 : ((0 : Int) ≤ (ig9 7424).toInt) ∧ ((ig9 7424).toInt ≤ 8) := hGg9.I.1 7424
              have efig9_7424 : (ig9 7424).toInt = (i 7424).toInt := kg9.ti 7424 rfl
              have efig11_7424 : (ig11 7424).toInt = (ig9 7424).toInt := kg11.ti 7424 rfl
              have efig12_7424 : (ig12 7424).toInt = (ig11 7424).toInt := kg12.ti 7424 rfl
              refine ft_go mi_k189 3 65 [(5, .int l5_13), (4, .int l4_13), (3, .int vg5), (0, .ref 116), (1, .int x1), (2, .int x2)] [.int (ig12 7424), .int l5_13] ig12 ag12 qg12 rg12 (by rfl) ?_
              refine ft_if mi_k189 (decide ((ig12 7424) ≤ l5_13)) 111 68 [(5, .int l5_13), (4, .int l4_13), (3, .int vg5), (0, .ref 116), (1, .int x1), (2, .int x2)] [] (by rfl) (fun c => ?_) (fun c => ?_)
              ·
                have c14 : (ig12 7424).toInt ≤ l5_13.toInt := kd_le c; clear c
                refine ft_go mi_k189 4 117 [(5, .int l5_13), (4, .int l4_13), (3, .int vg5), (0, .ref 116), (1, .int x1), (2, .int x2)] [.int 0, .ref 139, .ref 116] ig12 ag12 qg12 rg12 (by rfl) ?_
                refine ko_callN mi_k189.1 (pc := 117) (ls := [(5, .int l5_13), (4, .int l4_13), (3, .int vg5), (0, .ref 116), (1, .int x1), (2, .int x2)]) (st := [.int 0, .ref 139, .ref 116]) (h := ks ig12 ag12 qg12 rg12) (i := (.invokevirtual 273, 3, 169, 0, 9, 0, 423)) (mi_k189.2 _ _ (by rfl)) (ft_invS mi_pq169 (by rfl)) (cy := mi_c169) mi_pq169 rfl (kc169_116_139 hGg12.I hGg12.R 0 (oz236 kn0)) (by decide) ?_
                intro ig15 ag15 qg15 rg15 kg15 hg15
                have hGg15 := kG_call hGg12 kg15 (by decide +kernel)
                refine ft_go mi_k189 1 121 [(5, .int l5_13), (4, .int l4_13), (3, .int vg5), (0, .ref 116), (1, .int x1), (2, .int x2)] [.int x2] ig15 ag15 qg15 rg15 (by rfl) ?_
                refine ft_if mi_k189 (x2 != 0) 131 124 [(5, .int l5_13), (4, .int l4_13), (3, .int vg5), (0, .ref 116), (1, .int x1), (2, .int x2)] [] (by rfl) (fun c => ?_) (fun c => ?_)
                ·
                  have c16 : x2.toInt ≠ (0 : Int32).toInt := kd_ne c; clear c
                  refine ft_go mi_k189 1 133 [(5, .int l5_13), (4, .int l4_13), (3, .int vg5), (0, .ref 116), (1, .int x1), (2, .int x2)] [.int l4_13] ig15 ag15 qg15 rg15 (by rfl) ?_
                  exact ft_ret mi_k189 (by rfl) (hP l4_13 _ _ _ _ hGg15 trivial)
                ·
                  have c17 : x2.toInt = (0 : Int32).toInt := kd_neF c; clear c
                  refine ft_go mi_k189 1 125 [(5, .int l5_13), (4, .int l4_13), (3, .int vg5), (0, .ref 116), (1, .int x1), (2, .int x2)] [.ref 116] ig15 ag15 qg15 rg15 (by rfl) ?_
                  refine ko_callI mi_k189.1 (pc := 125) (ls := [(5, .int l5_13), (4, .int l4_13), (3, .int vg5), (0, .ref 116), (1, .int x1), (2, .int x2)]) (st := [.ref 116]) (h := ks ig15 ag15 qg15 rg15) (i := (.invokevirtual 311, 3, 188, 0, 9, 0, 440)) (mi_k189.2 _ _ (by rfl)) (ft_invS mi_pq188 (by rfl)) (cy := mi_c188) mi_pq188 rfl (kc188_116 hGg15.I hGg15.R ) (by decide) ?_
                  intro vg18 ig18 ag18 qg18 rg18 kg18 hg18
                  have hGg18 := kG_call hGg15 kg18 (by decide +kernel)
                  refine ft_go mi_k189 1 133 [(5, .int l5_13), (4, .int l4_13), (3, .int vg5), (0, .ref 116), (1, .int x1), (2, .int x2)] [.int vg18] ig18 ag18 qg18 rg18 (by rfl) ?_
                  exact ft_ret mi_k189 (by rfl) (hP vg18 _ _ _ _ hGg18 trivial)
              ·
                have c19 : l5_13.toInt < (ig12 7424).toInt := kd_leF c; clear c
                refine ft_go mi_k189 3 74 [(5, .int l5_13), (4, .int l4_13), (3, .int vg5), (0, .ref 116), (1, .int x1), (2, .int x2)] [.int l5_13, .ref 118] ig12 ag12 qg12 rg12 (by rfl) ?_
                refine ko_iald3 mi_k189.1 (n := 31) (c := 31) (ax := (0, 0, 0, 0, 0)) (mi_k189.2 _ _ (by rfl)) (by rfl) (ksG118 _ _ _ _) (hGg12.I.2.1 118) rfl (oz489 p13_1) (oz490 c19 fig12_7424.2) ?_
                have r20 : ((l5_13.toInt = 18 → (0 : Int) ≤ ((ag12 118).getD l5_13.toNatClampNeg 0).toInt ∧ ((ag12 118).getD l5_13.toNatClampNeg 0).toInt ≤ 5)) ∧ ((19 ≤ l5_13.toInt → l5_13.toInt ≤ 24 → (0 : Int) ≤ ((ag12 118).getD l5_13.toNatClampNeg 0).toInt ∧ ((ag12 118).getD l5_13.toNatClampNeg 0).toInt ≤ 7)) := kE_ncond (p := 118) hGg12.I (by decide) (j := l5_13) (oz489 p13_1)
                refine ft_go mi_k189 3 81 [(5, .int l5_13), (4, .int l4_13), (3, .int vg5), (0, .ref 116), (1, .int x1), (2, .int x2)] [.int l5_13, .ref 139, .int ((ag12 118).getD l5_13.toNatClampNeg 0)] ig12 ag12 qg12 rg12 (by rfl) ?_
                refine ko_iald3 mi_k189.1 (n := 31) (c := 31) (ax := (0, 0, 0, 0, 0)) (mi_k189.2 _ _ (by rfl)) (by rfl) (ksG139 _ _ _ _) (hGg12.I.2.1 139) rfl (oz489 p13_1) (oz490 c19 fig12_7424.2) ?_
                have r21 : ((l5_13.toInt = 18 → (0 : Int) ≤ ((ag12 139).getD l5_13.toNatClampNeg 0).toInt ∧ ((ag12 139).getD l5_13.toNatClampNeg 0).toInt ≤ 5)) ∧ ((19 ≤ l5_13.toInt → l5_13.toInt ≤ 24 → (0 : Int) ≤ ((ag12 139).getD l5_13.toNatClampNeg 0).toInt ∧ ((ag12 139).getD l5_13.toNatClampNeg 0).toInt ≤ 7)) := kE_ncond (p := 139) hGg12.I (by decide) (j := l5_13) (oz489 p13_1)
                have b22 : ((-2147483648 : Int) ≤ ((ag12 118).getD l5_13.toNatClampNeg 0).toInt) ∧ (((ag12 118).getD l5_13.toNatClampNeg 0).toInt ≤ 2147483647) := kd_bd ((ag12 118).getD l5_13.toNatClampNeg 0)
                have b23 : ((-2147483648 : Int) ≤ ((ag12 139).getD l5_13.toNatClampNeg 0).toInt) ∧ (((ag12 139).getD l5_13.toNatClampNeg 0).toInt ≤ 2147483647) := kd_bd ((ag12 139).getD l5_13.toNatClampNeg 0)
                refine ft_go mi_k189 4 89 [(5, .int l5_13), (4, .int l4_13), (3, .int vg5), (0, .ref 116), (1, .int x1), (2, .int x2)] [.int l4_13, .ref 118, .int (((ag12 118).getD l5_13.toNatClampNeg 0) - ((ag12 139).getD l5_13.toNatClampNeg 0))] ig12 ag12 qg12 rg12 (by rfl) ?_
                refine ko_iald3 mi_k189.1 (n := 31) (c := 31) (ax := (0, 0, 0, 0, 0)) (mi_k189.2 _ _ (by rfl)) (by rfl) (ksG118 _ _ _ _) (hGg12.I.2.1 118) rfl (oz3 p13_0.1) (oz65 p13_0.2) ?_
                have r24 : ((l4_13.toInt = 18 → (0 : Int) ≤ ((ag12 118).getD l4_13.toNatClampNeg 0).toInt ∧ ((ag12 118).getD l4_13.toNatClampNeg 0).toInt ≤ 5)) ∧ ((19 ≤ l4_13.toInt → l4_13.toInt ≤ 24 → (0 : Int) ≤ ((ag12 118).getD l4_13.toNatClampNeg 0).toInt ∧ ((ag12 118).getD l4_13.toNatClampNeg 0).toInt ≤ 7)) := kE_ncond (p := 118) hGg12.I (by decide) (j := l4_13) (oz3 p13_0.1)
                refine ft_go mi_k189 3 96 [(5, .int l5_13), (4, .int l4_13), (3, .int vg5), (0, .ref 116), (1, .int x1), (2, .int x2)] [.int l4_13, .ref 139, .int ((ag12 118).getD l4_13.toNatClampNeg 0), .int (((ag12 118).getD l5_13.toNatClampNeg 0) - ((ag12 139).getD l5_13.toNatClampNeg 0))] ig12 ag12 qg12 rg12 (by rfl) ?_
                refine ko_iald3 mi_k189.1 (n := 31) (c := 31) (ax := (0, 0, 0, 0, 0)) (mi_k189.2 _ _ (by rfl)) (by rfl) (ksG139 _ _ _ _) (hGg12.I.2.1 139) rfl (oz3 p13_0.1) (oz65 p13_0.2) ?_
                have r25 : ((l4_13.toInt = 18 → (0 : Int) ≤ ((ag12 139).getD l4_13.toNatClampNeg 0).toInt ∧ ((ag12 139).getD l4_13.toNatClampNeg 0).toInt ≤ 5)) ∧ ((19 ≤ l4_13.toInt → l4_13.toInt ≤ 24 → (0 : Int) ≤ ((ag12 139).getD l4_13.toNatClampNeg 0).toInt ∧ ((ag12 139).getD l4_13.toNatClampNeg 0).toInt ≤ 7)) := kE_ncond (p := 139) hGg12.I (by decide) (j := l4_13) (oz3 p13_0.1)
                have b26 : ((-2147483648 : Int) ≤ ((ag12 118).getD l4_13.toNatClampNeg 0).toInt) ∧ (((ag12 118).getD l4_13.toNatClampNeg 0).toInt ≤ 2147483647) := kd_bd ((ag12 118).getD l4_13.toNatClampNeg 0)
                have b27 : ((-2147483648 : Int) ≤ ((ag12 139).getD l4_13.toNatClampNeg 0).toInt) ∧ (((ag12 139).getD l4_13.toNatClampNeg 0).toInt ≤ 2147483647) := kd_bd ((ag12 139).getD l4_13.toNatClampNeg 0)
                refine ft_go mi_k189 1 98 [(5, .int l5_13), (4, .int l4_13), (3, .int vg5), (0, .ref 116), (1, .int x1), (2, .int x2)] [.int (((ag12 118).getD l4_13.toNatClampNeg 0) - ((ag12 139).getD l4_13.toNatClampNeg 0)), .int (((ag12 118).getD l5_13.toNatClampNeg 0) - ((ag12 139).getD l5_13.toNatClampNeg 0))] ig12 ag12 qg12 rg12 (by rfl) ?_
                refine ft_if mi_k189 (decide ((((ag12 118).getD l5_13.toNatClampNeg 0) - ((ag12 139).getD l5_13.toNatClampNeg 0)) ≤ (((ag12 118).getD l4_13.toNatClampNeg 0) - ((ag12 139).getD l4_13.toNatClampNeg 0)))) 105 101 [(5, .int l5_13), (4, .int l4_13), (3, .int vg5), (0, .ref 116), (1, .int x1), (2, .int x2)] [] (by rfl) (fun c => ?_) (fun c => ?_)
                ·
                  have c28 : (((ag12 118).getD l5_13.toNatClampNeg 0) - ((ag12 139).getD l5_13.toNatClampNeg 0)).toInt ≤ (((ag12 118).getD l4_13.toNatClampNeg 0) - ((ag12 139).getD l4_13.toNatClampNeg 0)).toInt := kd_le c; clear c
                  have s29 : (l5_13 + 1).toInt = l5_13.toInt + (1 : Int32).toInt := kd_add (oz491 p13_1 kn1) (oz442 c19 fig12_7424.2 kn1)
                  refine ft_go mi_k189 2 59 [(5, .int (l5_13 + 1)), (4, .int l4_13), (3, .int vg5), (0, .ref 116), (1, .int x1), (2, .int x2)] [] ig12 ag12 qg12 rg12 (by rfl) ?_
                  exact ih13 _ _ (oz181 p13_0.1 p13_0.2) (oz492 p13_1 s29 kn1) (kj_meas (oz44 s29 kn1) (oz45 c19) hm13)
                ·
                  have c30 : (((ag12 118).getD l4_13.toNatClampNeg 0) - ((ag12 139).getD l4_13.toNatClampNeg 0)).toInt < (((ag12 118).getD l5_13.toNatClampNeg 0) - ((ag12 139).getD l5_13.toNatClampNeg 0)).toInt := kd_leF c; clear c
                  have s31 : (l5_13 + 1).toInt = l5_13.toInt + (1 : Int32).toInt := kd_add (oz491 p13_1 kn1) (oz442 c19 fig12_7424.2 kn1)
                  refine ft_go mi_k189 4 59 [(5, .int (l5_13 + 1)), (4, .int l5_13), (3, .int vg5), (0, .ref 116), (1, .int x1), (2, .int x2)] [] ig12 ag12 qg12 rg12 (by rfl) ?_
                  exact ih13 _ _ (oz493 c19 fig12_7424.2 p13_1) (oz492 p13_1 s31 kn1) (kj_meas (oz44 s31 kn1) (oz45 c19) hm13)
          exact lp13 _ _ _ (oz463 kn0) (oz494 kn1) (Nat.lt_succ_self _)
        ·
          have c32 : (i 7424).toInt = (0 : Int32).toInt := kd_neF c; clear c
          refine ft_go mi_k189 1 39 [(3, .int vg5), (0, .ref 116), (1, .int x1), (2, .int x2)] [.int (-2)] i a q r (by rfl) ?_
          exact ft_ret mi_k189 (by rfl) (hP (-2) _ _ _ _ hG trivial)
      ·
        have c33 : vg5.toInt < (0 : Int32).toInt := kd_leF c; clear c
        refine ft_go mi_k189 1 29 [(3, .int vg5), (0, .ref 116), (1, .int x1), (2, .int x2)] [.int vg5] i a q r (by rfl) ?_
        exact ft_ret mi_k189 (by rfl) (hP vg5 _ _ _ _ hG trivial)
    ·
      subst eg3
      have z34 : ¬ (((0 : Int32).toInt ≤ x2.toInt) ∧ (x2.toInt ≤ (1 : Int32).toInt)) := hg3
      refine ft_go mi_k189 2 17 [(0, .ref 116), (1, .int x1), (2, .int x2)] [.int (-1)] i a q r (by rfl) ?_
      exact ft_ret mi_k189 (by rfl) (hP (-1) _ _ _ _ hG trivial)
  ·
    subst eg1
    have z35 : ¬ (((0 : Int) ≤ x1.toInt) ∧ (x1.toInt ≤ 5)) := hg1
    refine ft_go mi_k189 2 17 [(0, .ref 116), (1, .int x1), (2, .int x2)] [.int (-1)] i a q r (by rfl) ?_
    exact ft_ret mi_k189 (by rfl) (hP (-1) _ _ _ _ hG trivial)
set_option maxRecDepth 100000 in
theorem kc190_116 {i : Nat → Int32} {a : Nat → List Int32} {q : Nat → List Int64} {r : Nat → Nat} (hI : kI i a q) (hr : kr r) (x1 : Int32) : km 5 190 [.ref 116, .int x1] (ks i a q r) (kPI (ks i a q r) (fun v => (v = 1 ∧ (((0 : Int) ≤ x1.toInt) ∧ (((0 : Int) ≤ (x1.toInt / 10)) ∧ ((x1.toInt / 10) ≤ 5)) ∧ ((x1.toInt % 10) ≤ 5))) ∨ (v = 0 ∧ (¬ (((0 : Int) ≤ x1.toInt) ∧ (((0 : Int) ≤ (x1.toInt / 10)) ∧ ((x1.toInt / 10) ≤ 5)) ∧ ((x1.toInt % 10) ≤ 5)))))) := by
  have hG := kG_self kW0 hI hr
  refine km_ofPI (q := (mi_h190, mi_c190)) rfl (by decide) (Nat.le_of_ble_eq_true rfl) ?_
  intro P hP
  refine ft_go mi_k190 1 1 [(0, .ref 116), (1, .int x1)] [.int x1] i a q r (by rfl) ?_
  refine ft_if mi_k190 (decide (x1 < 0)) 28 4 [(0, .ref 116), (1, .int x1)] [] (by rfl) (fun c => ?_) (fun c => ?_)
  ·
    have c1 : x1.toInt < (0 : Int32).toInt := kd_lt c; clear c
    refine ft_go mi_k190 1 29 [(0, .ref 116), (1, .int x1)] [.int 0] i a q r (by rfl) ?_
    exact ft_ret mi_k190 (by rfl) (hP 0 (Or.inr ⟨rfl, (oz495 c1 kn0)⟩))
  ·
    have c2 : (0 : Int32).toInt ≤ x1.toInt := kd_ltF c; clear c
    have s3 : (x1 / 10).toInt = (x1.toInt / 10) := kd_div 10 kn10 (by decide) (oz389 c2 kn0)
    refine ft_go mi_k190 3 8 [(0, .ref 116), (1, .int x1)] [.int (x1 / 10)] i a q r (by rfl) ?_
    refine ko_callPI mi_k190.1 (pc := 8) (ls := [(0, .ref 116), (1, .int x1)]) (st := [.int (x1 / 10)]) (h := ks i a q r) (i := (.invokestatic 127, 3, 133, 0, 9, 0, 382)) (mi_k190.2 _ _ (by rfl)) (ft_invS mi_pq133 (by rfl)) (cy := mi_c133) mi_pq133 rfl (kc133 hG.I hG.R (x1 / 10)) (by decide) ?_
    intro vg4 hg4
    rcases hg4 with ⟨eg4, hg4⟩ | ⟨eg4, hg4⟩
    ·
      subst eg4
      have z5 : ((0 : Int) ≤ (x1 / 10).toInt) ∧ ((x1 / 10).toInt ≤ 5) := hg4
      have s6 : (x1 - x1 / 10 * 10).toInt = (x1.toInt % 10) := kd_rem 10 kn10 (by decide) (oz389 c2 kn0)
      refine ft_go mi_k190 4 18 [(0, .ref 116), (1, .int x1)] [.int (x1 - x1 / 10 * 10)] i a q r (by rfl) ?_
      refine ko_callPI mi_k190.1 (pc := 18) (ls := [(0, .ref 116), (1, .int x1)]) (st := [.int (x1 - x1 / 10 * 10)]) (h := ks i a q r) (i := (.invokestatic 127, 3, 133, 0, 9, 0, 382)) (mi_k190.2 _ _ (by rfl)) (ft_invS mi_pq133 (by rfl)) (cy := mi_c133) mi_pq133 rfl (kc133 hG.I hG.R (x1 - x1 / 10 * 10)) (by decide) ?_
      intro vg7 hg7
      rcases hg7 with ⟨eg7, hg7⟩ | ⟨eg7, hg7⟩
      ·
        subst eg7
        have z8 : ((0 : Int) ≤ (x1 - x1 / 10 * 10).toInt) ∧ ((x1 - x1 / 10 * 10).toInt ≤ 5) := hg7
        refine ft_go mi_k190 3 29 [(0, .ref 116), (1, .int x1)] [.int 1] i a q r (by rfl) ?_
        exact ft_ret mi_k190 (by rfl) (hP 1 (Or.inl ⟨rfl, (oz496 c2 s3 s6 z5.1 z5.2 z8.2 kn0)⟩))
      ·
        subst eg7
        have z9 : ¬ (((0 : Int) ≤ (x1 - x1 / 10 * 10).toInt) ∧ ((x1 - x1 / 10 * 10).toInt ≤ 5)) := hg7
        refine ft_go mi_k190 2 29 [(0, .ref 116), (1, .int x1)] [.int 0] i a q r (by rfl) ?_
        exact ft_ret mi_k190 (by rfl) (hP 0 (Or.inr ⟨rfl, (oz497 s6 z9)⟩))
    ·
      subst eg4
      have z10 : ¬ (((0 : Int) ≤ (x1 / 10).toInt) ∧ ((x1 / 10).toInt ≤ 5)) := hg4
      refine ft_go mi_k190 2 29 [(0, .ref 116), (1, .int x1)] [.int 0] i a q r (by rfl) ?_
      exact ft_ret mi_k190 (by rfl) (hP 0 (Or.inr ⟨rfl, (oz498 c2 s3 z10 kn0)⟩))
set_option maxRecDepth 100000 in
theorem kc191_116 {i : Nat → Int32} {a : Nat → List Int32} {q : Nat → List Int64} {r : Nat → Nat} (hI : kI i a q) (hr : kr r) (x1 : Int32) (hp0 : ((0 : Int) ≤ (x1.toInt / 10)) ∧ ((x1.toInt / 10) ≤ 5)) (hp1 : (0 : Int) ≤ x1.toInt) (hp2 : (x1.toInt % 10) ≤ 5) : km 3 191 [.ref 116, .int x1] (ks i a q r) (kPI (ks i a q r) (fun v => (v.toInt < 0) ∨ (v.toInt = 0))) := by
  have hG := kG_self kW0 hI hr
  refine km_ofPI (q := (mi_h191, mi_c191)) rfl (by decide) (Nat.le_of_ble_eq_true rfl) ?_
  intro P hP
  have s1 : (x1 / 10).toInt = (x1.toInt / 10) := kd_div 10 kn10 (by decide) (oz3 hp1)
  refine ft_go mi_k191 4 5 [(0, .ref 116), (1, .int x1)] [.int (x1 / 10), .ref 116] i a q r (by rfl) ?_
  refine ko_callPI mi_k191.1 (pc := 5) (ls := [(0, .ref 116), (1, .int x1)]) (st := [.int (x1 / 10), .ref 116]) (h := ks i a q r) (i := (.invokevirtual 276, 3, 173, 0, 9, 0, 410)) (mi_k191.2 _ _ (by rfl)) (ft_invS mi_pq173 (by rfl)) (cy := mi_c173) mi_pq173 rfl (kc173_116 hG.I hG.R (x1 / 10) (oz499 hp0.2 hp1 hp2 s1)) (by decide) ?_
  intro vg2 hg2
  have z3 : (vg2.toInt < 0) ∨ (vg2.toInt = 0) := hg2
  refine ft_go mi_k191 2 10 [(2, .int vg2), (0, .ref 116), (1, .int x1)] [.int vg2] i a q r (by rfl) ?_
  refine ft_if mi_k191 (decide (0 ≤ vg2)) 17 13 [(2, .int vg2), (0, .ref 116), (1, .int x1)] [] (by rfl) (fun c => ?_) (fun c => ?_)
  ·
    have c4 : (0 : Int32).toInt ≤ vg2.toInt := kd_le c; clear c
    have s5 : (x1 - x1 / 10 * 10).toInt = (x1.toInt % 10) := kd_rem 10 kn10 (by decide) (oz3 hp1)
    refine ft_go mi_k191 4 22 [(2, .int vg2), (0, .ref 116), (1, .int x1)] [.int (x1 - x1 / 10 * 10), .ref 116] i a q r (by rfl) ?_
    refine ko_callPI mi_k191.1 (pc := 22) (ls := [(2, .int vg2), (0, .ref 116), (1, .int x1)]) (st := [.int (x1 - x1 / 10 * 10), .ref 116]) (h := ks i a q r) (i := (.invokevirtual 276, 3, 173, 0, 9, 0, 410)) (mi_k191.2 _ _ (by rfl)) (ft_invS mi_pq173 (by rfl)) (cy := mi_c173) mi_pq173 rfl (kc173_116 hG.I hG.R (x1 - x1 / 10 * 10) (oz500 hp2 s5)) (by decide) ?_
    intro vg6 hg6
    have z7 : (vg6.toInt < 0) ∨ (vg6.toInt = 0) := hg6
    exact ft_ret mi_k191 (by rfl) (hP vg6 (oz501 z7))
  ·
    have c8 : vg2.toInt < (0 : Int32).toInt := kd_leF c; clear c
    refine ft_go mi_k191 2 25 [(2, .int vg2), (0, .ref 116), (1, .int x1)] [.int vg2] i a q r (by rfl) ?_
    exact ft_ret mi_k191 (by rfl) (hP vg2 (oz502 c8 kn0))
def w192_116 : kW := ([7464, 7465, 7466, 7467], [118, 128, 129, 139, 141, 143, 144, 145], [], [])
set_option maxRecDepth 100000 in
theorem kc192_116 {i : Nat → Int32} {a : Nat → List Int32} {q : Nat → List Int64} {r : Nat → Nat} (hI : kI i a q) (hr : kr r) (x1 : Int32) (hp0 : ((0 : Int) ≤ x1.toInt) ∧ (x1.toInt ≤ 5)) (hE_code : kCode i a) : km 13 192 [.ref 116, .int x1] (ks i a q r) (kVI w192_116 i a q r (fun v i1 a1 q1 r1 => True)) := by
  have hG := kG_self w192_116 hI hr
  refine km_ofI (q := (mi_h192, mi_c192)) rfl (by decide) (Nat.le_of_ble_eq_true rfl) ?_
  intro P hP
  refine ft_go mi_k192 1 1 [(0, .ref 116), (1, .int x1)] [.ref 116] i a q r (by rfl) ?_
  refine ko_callN mi_k192.1 (pc := 1) (ls := [(0, .ref 116), (1, .int x1)]) (st := [.ref 116]) (h := ks i a q r) (i := (.invokevirtual 267, 3, 171, 0, 9, 0, 412)) (mi_k192.2 _ _ (by rfl)) (ft_invS mi_pq171 (by rfl)) (cy := mi_c171) mi_pq171 rfl (kc171_116 hG.I hG.R ) (by decide) ?_
  intro ig1 ag1 qg1 rg1 kg1 hg1
  have hGg1 := kG_call hG kg1 (by decide +kernel)
  refine ft_go mi_k192 1 5 [(0, .ref 116), (1, .int x1)] [.ref 116] ig1 ag1 qg1 rg1 (by rfl) ?_
  refine ko_callN mi_k192.1 (pc := 5) (ls := [(0, .ref 116), (1, .int x1)]) (st := [.ref 116]) (h := ks ig1 ag1 qg1 rg1) (i := (.invokevirtual 270, 3, 170, 0, 9, 0, 414)) (mi_k192.2 _ _ (by rfl)) (ft_invS mi_pq170 (by rfl)) (cy := mi_c170) mi_pq170 rfl (kc170_116 hGg1.I hGg1.R (kCode_of (i1 := ig1) hE_code (hGg1.fi 7432 rfl) (hGg1.fa 120 rfl) (hGg1.fa 121 rfl) (hGg1.fa 122 rfl) (hGg1.fa 123 rfl))) (by decide) ?_
  intro ig2 ag2 qg2 rg2 kg2 hg2
  have hGg2 := kG_call hGg1 kg2 (by decide +kernel)
  refine ft_go mi_k192 4 14 [(0, .ref 116), (1, .int x1)] [.int 0, .ref 139, .ref 116] ig2 ag2 qg2 rg2 (by rfl) ?_
  refine ko_callN mi_k192.1 (pc := 14) (ls := [(0, .ref 116), (1, .int x1)]) (st := [.int 0, .ref 139, .ref 116]) (h := ks ig2 ag2 qg2 rg2) (i := (.invokevirtual 273, 3, 169, 0, 9, 0, 423)) (mi_k192.2 _ _ (by rfl)) (ft_invS mi_pq169 (by rfl)) (cy := mi_c169) mi_pq169 rfl (kc169_116_139 hGg2.I hGg2.R 0 (oz236 kn0)) (by decide) ?_
  intro ig3 ag3 qg3 rg3 kg3 hg3
  have hGg3 := kG_call hGg2 kg3 (by decide +kernel)
  refine ft_go mi_k192 2 19 [(2, .int 0), (0, .ref 116), (1, .int x1)] [] ig3 ag3 qg3 rg3 (by rfl) ?_
  have lp4 : ∀ (nz : Nat) (l2_4 : Int32), (0 : Int) ≤ l2_4.toInt → ((60 - l2_4.toInt)).toNat < nz → ko 13 (mi_h192, mi_c192) P (19, [(2, .int l2_4), (0, .ref 116), (1, .int x1)], [], (0, 0), ks ig3 ag3 qg3 rg3) := by
    intro nz
    induction nz with
    | zero =>
      intro _ _ hm
      exact absurd hm (Nat.not_lt_zero _)
    | succ nz ih4 =>
      intro l2_4 p4_0 hm4
      refine ft_go mi_k192 4 25 [(2, .int l2_4), (0, .ref 116), (1, .int x1)] [.int x1, .ref 137, .int l2_4] ig3 ag3 qg3 rg3 (by rfl) ?_
      refine ko_iald3 mi_k192.1 (n := 6) (c := 6) (ax := (0, 0, 0, 0, 0)) (mi_k192.2 _ _ (by rfl)) (by rfl) (ksG137 _ _ _ _) (hGg3.I.2.1 137) rfl (oz3 hp0.1) (oz19 hp0.2) ?_
      have r5 : ((0 : Int) ≤ ((ag3 137).getD x1.toNatClampNeg 0).toInt) ∧ (((ag3 137).getD x1.toNatClampNeg 0).toInt ≤ 60) := hGg3.I.2.2.1 137 (x1.toNatClampNeg)
      refine ft_if mi_k192 (decide (((ag3 137).getD x1.toNatClampNeg 0) ≤ l2_4)) 71 29 [(2, .int l2_4), (0, .ref 116), (1, .int x1)] [] (by rfl) (fun c => ?_) (fun c => ?_)
      ·
        have c6 : ((ag3 137).getD x1.toNatClampNeg 0).toInt ≤ l2_4.toInt := kd_le c; clear c
        refine ft_go mi_k192 1 73 [(2, .int l2_4), (0, .ref 116), (1, .int x1)] [.int (-2)] ig3 ag3 qg3 rg3 (by rfl) ?_
        exact ft_ret mi_k192 (by rfl) (hP (-2) _ _ _ _ hGg3 trivial)
      ·
        have c7 : l2_4.toInt < ((ag3 137).getD x1.toNatClampNeg 0).toInt := kd_leF c; clear c
        have fig3_7469 : ((0 : Int) ≤ (ig3 7469).toInt) ∧ ((ig3 7469).toInt ≤ 21) := hGg3.I.1 7469
        have fig2_7469 : ((0 : Int) ≤ (ig2 7469).toInt) ∧ ((ig2 7469).toInt ≤ 21) := hGg2.I.1 7469
        have fig1_7469 : ((0 : Int) ≤ (ig1 7469).toInt) ∧ ((ig1 7469).toInt ≤ 21) := hGg1.I.1 7469
        have fi_7469 : ((0 : Int) ≤ (i 7469).toInt) ∧ ((i 7469).toInt ≤ 21) := hG.I.1 7469
        have efig1_7469 : (ig1 7469).toInt = (i 7469).toInt := kg1.ti 7469 rfl
        have efig2_7469 : (ig2 7469).toInt = (ig1 7469).toInt := kg2.ti 7469 rfl
        have efig3_7469 : (ig3 7469).toInt = (ig2 7469).toInt := kg3.ti 7469 rfl
        refine ft_go mi_k192 3 34 [(2, .int l2_4), (0, .ref 116), (1, .int x1)] [.int (ig3 7469), .int l2_4] ig3 ag3 qg3 rg3 (by rfl) ?_
        refine ft_if mi_k192 (decide ((ig3 7469) ≤ l2_4)) 63 37 [(2, .int l2_4), (0, .ref 116), (1, .int x1)] [] (by rfl) (fun c => ?_) (fun c => ?_)
        ·
          have c8 : (ig3 7469).toInt ≤ l2_4.toInt := kd_le c; clear c
          refine ft_go mi_k192 1 64 [(2, .int l2_4), (0, .ref 116), (1, .int x1)] [.int l2_4] ig3 ag3 qg3 rg3 (by rfl) ?_
          exact ft_ret mi_k192 (by rfl) (hP l2_4 _ _ _ _ hGg3 trivial)
        ·
          have c9 : l2_4.toInt < (ig3 7469).toInt := kd_leF c; clear c
          refine ft_go mi_k192 3 40 [(2, .int l2_4), (0, .ref 116), (1, .int x1)] [.int l2_4, .int x1, .ref 116] ig3 ag3 qg3 rg3 (by rfl) ?_
          refine ko_callPI mi_k192.1 (pc := 40) (ls := [(2, .int l2_4), (0, .ref 116), (1, .int x1)]) (st := [.int l2_4, .int x1, .ref 116]) (h := ks ig3 ag3 qg3 rg3) (i := (.invokevirtual 133, 3, 137, 0, 9, 0, 384)) (mi_k192.2 _ _ (by rfl)) (ft_invS mi_pq137 (by rfl)) (cy := mi_c137) mi_pq137 rfl (kc137_116 hGg3.I hGg3.R x1 l2_4 (oz35 hp0.1 hp0.2) (oz506 c7 p4_0 r5.2)) (by decide) ?_
          intro vg10 hg10
          have z11 : vg10.toInt = (((qg3 138).getD ((60 * x1) + l2_4).toNatClampNeg 0).toInt32).toInt := hg10
          refine ft_go mi_k192 1 45 [(2, .int l2_4), (0, .ref 116), (1, .int x1)] [.int 9, .int vg10] ig3 ag3 qg3 rg3 (by rfl) ?_
          refine ft_if mi_k192 (vg10 == 9) 65 48 [(2, .int l2_4), (0, .ref 116), (1, .int x1)] [] (by rfl) (fun c => ?_) (fun c => ?_)
          ·
            have c12 : vg10.toInt = (9 : Int32).toInt := kd_eq c; clear c
            have s13 : (l2_4 + 1).toInt = l2_4.toInt + (1 : Int32).toInt := kd_add (oz12 p4_0 kn1) (oz307 c7 r5.2 kn1)
            refine ft_go mi_k192 2 19 [(2, .int (l2_4 + 1)), (0, .ref 116), (1, .int x1)] [] ig3 ag3 qg3 rg3 (by rfl) ?_
            exact ih4 _ (oz14 p4_0 s13 kn1) (kj_meas (oz507 s13 kn1) (oz508 c7 r5.2) hm4)
          ·
            have c14 : vg10.toInt ≠ (9 : Int32).toInt := kd_eqF c; clear c
            refine ft_go mi_k192 3 51 [(2, .int l2_4), (0, .ref 116), (1, .int x1)] [.int l2_4, .int x1, .ref 116] ig3 ag3 qg3 rg3 (by rfl) ?_
            refine ko_callPI mi_k192.1 (pc := 51) (ls := [(2, .int l2_4), (0, .ref 116), (1, .int x1)]) (st := [.int l2_4, .int x1, .ref 116]) (h := ks ig3 ag3 qg3 rg3) (i := (.invokevirtual 133, 3, 137, 0, 9, 0, 384)) (mi_k192.2 _ _ (by rfl)) (ft_invS mi_pq137 (by rfl)) (cy := mi_c137) mi_pq137 rfl (kc137_116 hGg3.I hGg3.R x1 l2_4 (oz35 hp0.1 hp0.2) (oz506 c7 p4_0 r5.2)) (by decide) ?_
            intro vg15 hg15
            have z16 : vg15.toInt = (((qg3 138).getD ((60 * x1) + l2_4).toNatClampNeg 0).toInt32).toInt := hg15
            refine ft_go mi_k192 3 59 [(2, .int l2_4), (0, .ref 116), (1, .int x1)] [.int l2_4, .ref 143, .int vg15] ig3 ag3 qg3 rg3 (by rfl) ?_
            refine ko_iald3 mi_k192.1 (n := 21) (c := 21) (ax := (0, 0, 0, 0, 0)) (mi_k192.2 _ _ (by rfl)) (by rfl) (ksG143 _ _ _ _) (hGg3.I.2.1 143) rfl (oz3 p4_0) (oz241 c9 fig3_7469.2) ?_
            refine ft_if mi_k192 (vg15 == ((ag3 143).getD l2_4.toNatClampNeg 0)) 65 63 [(2, .int l2_4), (0, .ref 116), (1, .int x1)] [] (by rfl) (fun c => ?_) (fun c => ?_)
            ·
              have c17 : vg15.toInt = ((ag3 143).getD l2_4.toNatClampNeg 0).toInt := kd_eq c; clear c
              have s18 : (l2_4 + 1).toInt = l2_4.toInt + (1 : Int32).toInt := kd_add (oz12 p4_0 kn1) (oz307 c7 r5.2 kn1)
              refine ft_go mi_k192 2 19 [(2, .int (l2_4 + 1)), (0, .ref 116), (1, .int x1)] [] ig3 ag3 qg3 rg3 (by rfl) ?_
              exact ih4 _ (oz14 p4_0 s18 kn1) (kj_meas (oz507 s18 kn1) (oz508 c7 r5.2) hm4)
            ·
              have c19 : vg15.toInt ≠ ((ag3 143).getD l2_4.toNatClampNeg 0).toInt := kd_eqF c; clear c
              refine ft_go mi_k192 1 64 [(2, .int l2_4), (0, .ref 116), (1, .int x1)] [.int l2_4] ig3 ag3 qg3 rg3 (by rfl) ?_
              exact ft_ret mi_k192 (by rfl) (hP l2_4 _ _ _ _ hGg3 trivial)
  exact lp4 _ _ (oz46 kn0) (Nat.lt_succ_self _)
def w193_116 : kW := ([7464, 7465, 7466, 7467, 7469], [118, 128, 129, 139, 141, 142, 143, 144, 145], [], [])
set_option maxRecDepth 100000 in
theorem kc193_116 {i : Nat → Int32} {a : Nat → List Int32} {q : Nat → List Int64} {r : Nat → Nat} (hI : kI i a q) (hr : kr r) (x1 : Int32) (hE_code : kCode i a) : km 15 193 [.ref 116, .int x1] (ks i a q r) (kVI w193_116 i a q r (fun v i1 a1 q1 r1 => True)) := by
  have hG := kG_self w193_116 hI hr
  refine km_ofI (q := (mi_h193, mi_c193)) rfl (by decide) (Nat.le_of_ble_eq_true rfl) ?_
  intro P hP
  refine ft_go mi_k193 2 2 [(0, .ref 116), (1, .int x1)] [.int x1, .ref 116] i a q r (by rfl) ?_
  refine ko_callPI mi_k193.1 (pc := 2) (ls := [(0, .ref 116), (1, .int x1)]) (st := [.int x1, .ref 116]) (h := ks i a q r) (i := (.invokevirtual 314, 3, 190, 0, 9, 0, 442)) (mi_k193.2 _ _ (by rfl)) (ft_invS mi_pq190 (by rfl)) (cy := mi_c190) mi_pq190 rfl (kc190_116 hG.I hG.R x1) (by decide) ?_
  intro vg1 hg1
  rcases hg1 with ⟨eg1, hg1⟩ | ⟨eg1, hg1⟩
  ·
    subst eg1
    have z2 : ((0 : Int) ≤ x1.toInt) ∧ (((0 : Int) ≤ (x1.toInt / 10)) ∧ ((x1.toInt / 10) ≤ 5)) ∧ ((x1.toInt % 10) ≤ 5) := hg1
    refine ft_go mi_k193 3 12 [(0, .ref 116), (1, .int x1)] [.int x1, .ref 116] i a q r (by rfl) ?_
    refine ko_callPI mi_k193.1 (pc := 12) (ls := [(0, .ref 116), (1, .int x1)]) (st := [.int x1, .ref 116]) (h := ks i a q r) (i := (.invokevirtual 317, 3, 191, 0, 9, 0, 443)) (mi_k193.2 _ _ (by rfl)) (ft_invS mi_pq191 (by rfl)) (cy := mi_c191) mi_pq191 rfl (kc191_116 hG.I hG.R x1 (oz503 z2.2.1.1 z2.2.1.2) (oz3 z2.1) (oz504 z2.2.2)) (by decide) ?_
    intro vg3 hg3
    have z4 : (vg3.toInt < 0) ∨ (vg3.toInt = 0) := hg3
    refine ft_go mi_k193 2 17 [(2, .int vg3), (0, .ref 116), (1, .int x1)] [.int vg3] i a q r (by rfl) ?_
    refine ft_if mi_k193 (decide (0 ≤ vg3)) 22 20 [(2, .int vg3), (0, .ref 116), (1, .int x1)] [] (by rfl) (fun c => ?_) (fun c => ?_)
    ·
      have c5 : (0 : Int32).toInt ≤ vg3.toInt := kd_le c; clear c
      have s6 : (x1 / 10).toInt = (x1.toInt / 10) := kd_div 10 kn10 (by decide) (oz3 z2.1)
      refine ft_go mi_k193 4 27 [(2, .int vg3), (0, .ref 116), (1, .int x1)] [.int (x1 / 10), .ref 116] i a q r (by rfl) ?_
      refine ko_callN mi_k193.1 (pc := 27) (ls := [(2, .int vg3), (0, .ref 116), (1, .int x1)]) (st := [.int (x1 / 10), .ref 116]) (h := ks i a q r) (i := (.invokevirtual 279, 3, 174, 0, 9, 0, 411)) (mi_k193.2 _ _ (by rfl)) (ft_invS mi_pq174 (by rfl)) (cy := mi_c174) mi_pq174 rfl (kc174_116 hG.I hG.R (x1 / 10) (oz505 s6 z2.1 z2.2.1.2 z2.2.2)) (by decide) ?_
      intro ig7 ag7 qg7 rg7 kg7 hg7
      have hGg7 := kG_call hG kg7 (by decide +kernel)
      have fig7_7469 : ((0 : Int) ≤ (ig7 7469).toInt) ∧ ((ig7 7469).toInt ≤ 21) := hGg7.I.1 7469
      have z8 : (ig7 7469).toInt ≤ 20 := hg7
      have s9 : (x1 - x1 / 10 * 10).toInt = (x1.toInt % 10) := kd_rem 10 kn10 (by decide) (oz3 z2.1)
      refine ft_go mi_k193 4 35 [(2, .int vg3), (0, .ref 116), (1, .int x1)] [.int (x1 - x1 / 10 * 10), .ref 116] ig7 ag7 qg7 rg7 (by rfl) ?_
      refine ko_callI mi_k193.1 (pc := 35) (ls := [(2, .int vg3), (0, .ref 116), (1, .int x1)]) (st := [.int (x1 - x1 / 10 * 10), .ref 116]) (h := ks ig7 ag7 qg7 rg7) (i := (.invokevirtual 320, 3, 192, 0, 9, 0, 444)) (mi_k193.2 _ _ (by rfl)) (ft_invS mi_pq192 (by rfl)) (cy := mi_c192) mi_pq192 rfl (kc192_116 hGg7.I hGg7.R (x1 - x1 / 10 * 10) (oz509 s9 z2.2.2) (kCode_of (i1 := ig7) hE_code (hGg7.fi 7432 rfl) (hGg7.fa 120 rfl) (hGg7.fa 121 rfl) (hGg7.fa 122 rfl) (hGg7.fa 123 rfl))) (by decide) ?_
      intro vg10 ig10 ag10 qg10 rg10 kg10 hg10
      have hGg10 := kG_call hGg7 kg10 (by decide +kernel)
      exact ft_ret mi_k193 (by rfl) (hP vg10 _ _ _ _ hGg10 trivial)
    ·
      have c11 : vg3.toInt < (0 : Int32).toInt := kd_leF c; clear c
      refine ft_go mi_k193 1 21 [(2, .int vg3), (0, .ref 116), (1, .int x1)] [.int vg3] i a q r (by rfl) ?_
      exact ft_ret mi_k193 (by rfl) (hP vg3 _ _ _ _ hG trivial)
  ·
    subst eg1
    have z12 : ¬ (((0 : Int) ≤ x1.toInt) ∧ (((0 : Int) ≤ (x1.toInt / 10)) ∧ ((x1.toInt / 10) ≤ 5)) ∧ ((x1.toInt % 10) ≤ 5)) := hg1
    refine ft_go mi_k193 2 9 [(0, .ref 116), (1, .int x1)] [.int (-1)] i a q r (by rfl) ?_
    exact ft_ret mi_k193 (by rfl) (hP (-1) _ _ _ _ hG trivial)
def w195_116 : kW := ([7464, 7465, 7466, 7467], [118, 128, 129, 139, 141, 142, 143, 144, 145], [], [])
def w195_116_L13 : kW := ([7464, 7465, 7466, 7467], [118, 128, 129, 139, 141, 142, 143, 144, 145], [], [])
set_option maxRecDepth 100000 in
theorem kc195_116 {i : Nat → Int32} {a : Nat → List Int32} {q : Nat → List Int64} {r : Nat → Nat} (hI : kI i a q) (hr : kr r) (x1 : Int32) (x2 : Int32) (hp0 : ((0 : Int) ≤ x1.toInt) ∧ (x1.toInt ≤ 5)) (hp1 : ((0 : Int) ≤ x2.toInt) ∧ (x2.toInt ≤ 20)) (hE_code : kCode i a) : km 15 195 [.ref 116, .int x1, .int x2] (ks i a q r) (kVI w195_116 i a q r (fun v i1 a1 q1 r1 => True)) := by
  have hG := kG_self w195_116 hI hr
  refine km_ofI (q := (mi_h195, mi_c195)) rfl (by decide) (Nat.le_of_ble_eq_true rfl) ?_
  intro P hP
  refine ft_go mi_k195 3 5 [(0, .ref 116), (1, .int x1), (2, .int x2)] [.int x2, .ref 142] i a q r (by rfl) ?_
  refine ko_iald3 mi_k195.1 (n := 21) (c := 21) (ax := (0, 0, 0, 0, 0)) (mi_k195.2 _ _ (by rfl)) (by rfl) (ksG142 _ _ _ _) (hG.I.2.1 142) rfl (oz3 hp1.1) (oz222 hp1.2) ?_
  have r1 : ((0 : Int) ≤ ((a 142).getD x2.toNatClampNeg 0).toInt) ∧ (((a 142).getD x2.toNatClampNeg 0).toInt ≤ 7) := hG.I.2.2.1 142 (x2.toNatClampNeg)
  refine ft_go mi_k195 5 13 [(5, .int 0), (4, .int 0), (3, .int ((a 142).getD x2.toNatClampNeg 0)), (0, .ref 116), (1, .int x1), (2, .int x2)] [] i a q r (by rfl) ?_
  have lp2 : ∀ (nz : Nat) (i2 : Nat → Int32) (a2 : Nat → List Int32) (q2 : Nat → List Int64) (r2 : Nat → Nat) (l5_2 : Int32) (l4_2 : Int32), kG w195_116_L13 i a q r i2 a2 q2 r2 → (0 : Int) ≤ l5_2.toInt → (((i2 7424).toInt - l5_2.toInt)).toNat < nz → ko 15 (mi_h195, mi_c195) P (13, [(5, .int l5_2), (4, .int l4_2), (3, .int ((a 142).getD x2.toNatClampNeg 0)), (0, .ref 116), (1, .int x1), (2, .int x2)], [], (0, 0), ks i2 a2 q2 r2) := by
    intro nz
    induction nz with
    | zero =>
      intro _ _ _ _ _ _ _ _ hm
      exact absurd hm (Nat.not_lt_zero _)
    | succ nz ih2 =>
      intro i2 a2 q2 r2 l5_2 l4_2 hL2 p2_0 hm2
      have fi2_7424 : ((0 : Int) ≤ (i2 7424).toInt) ∧ ((i2 7424).toInt ≤ 8) := hL2.I.1 7424
      have fi_7424 : ((0 : Int) ≤ (i 7424).toInt) ∧ ((i 7424).toInt ≤ 8) := hG.I.1 7424
      have efi2_7424 : (i2 7424).toInt = (i 7424).toInt := hL2.ti 7424 rfl
      refine ft_go mi_k195 3 19 [(5, .int l5_2), (4, .int l4_2), (3, .int ((a 142).getD x2.toNatClampNeg 0)), (0, .ref 116), (1, .int x1), (2, .int x2)] [.int (i2 7424), .int l5_2] i2 a2 q2 r2 (by rfl) ?_
      refine ft_if mi_k195 (decide ((i2 7424) ≤ l5_2)) 55 22 [(5, .int l5_2), (4, .int l4_2), (3, .int ((a 142).getD x2.toNatClampNeg 0)), (0, .ref 116), (1, .int x1), (2, .int x2)] [] (by rfl) (fun c => ?_) (fun c => ?_)
      ·
        have c3 : (i2 7424).toInt ≤ l5_2.toInt := kd_le c; clear c
        have hG4 := kG_call hG hL2 (by decide +kernel)
        refine ft_go mi_k195 4 61 [(5, .int l5_2), (4, .int l4_2), (3, .int ((a 142).getD x2.toNatClampNeg 0)), (0, .ref 116), (1, .int x1), (2, .int x2)] [.int ((a 142).getD x2.toNatClampNeg 0), .int x2, .ref 142] i2 a2 q2 r2 (by rfl) ?_
        refine ko_iast3 mi_k195.1 (n := 21) (c := 21) (ax := (0, 0, 0, 0, 0)) (mi_k195.2 _ _ (by rfl)) (by rfl) (ksG142 _ _ _ _) (ksA142 _ _ _ _) (hG4.I.2.1 142) rfl (oz3 hp1.1) (oz222 hp1.2) ?_
        intro a5 ea5 fa5
        have hJ5 := kG_a3 hG4 142 rfl ea5 fa5 ⟨(oz3 r1.1), (oz407 r1.2)⟩
        refine ft_go mi_k195 1 64 [(5, .int l5_2), (4, .int l4_2), (3, .int ((a 142).getD x2.toNatClampNeg 0)), (0, .ref 116), (1, .int x1), (2, .int x2)] [.int l4_2] i2 a5 q2 r2 (by rfl) ?_
        exact ft_ret mi_k195 (by rfl) (hP l4_2 _ _ _ _ hJ5 trivial)
      ·
        have c6 : l5_2.toInt < (i2 7424).toInt := kd_leF c; clear c
        refine ft_go mi_k195 4 29 [(5, .int l5_2), (4, .int l4_2), (3, .int ((a 142).getD x2.toNatClampNeg 0)), (0, .ref 116), (1, .int x1), (2, .int x2)] [.int l5_2, .int x2, .ref 142] i2 a2 q2 r2 (by rfl) ?_
        refine ko_iast3 mi_k195.1 (n := 21) (c := 21) (ax := (0, 0, 0, 0, 0)) (mi_k195.2 _ _ (by rfl)) (by rfl) (ksG142 _ _ _ _) (ksA142 _ _ _ _) (hL2.I.2.1 142) rfl (oz3 hp1.1) (oz222 hp1.2) ?_
        intro a7 ea7 fa7
        have hJ7 := kG_a3 hL2 142 rfl ea7 fa7 ⟨(oz3 p2_0), (oz512 c6 fi2_7424.2)⟩
        refine ft_go mi_k195 2 32 [(5, .int l5_2), (4, .int l4_2), (3, .int ((a 142).getD x2.toNatClampNeg 0)), (0, .ref 116), (1, .int x1), (2, .int x2)] [.int x1, .ref 116] i2 a7 q2 r2 (by rfl) ?_
        have hG8 := kG_call hG hJ7 (by decide +kernel)
        refine ko_callI mi_k195.1 (pc := 32) (ls := [(5, .int l5_2), (4, .int l4_2), (3, .int ((a 142).getD x2.toNatClampNeg 0)), (0, .ref 116), (1, .int x1), (2, .int x2)]) (st := [.int x1, .ref 116]) (h := ks i2 a7 q2 r2) (i := (.invokevirtual 320, 3, 192, 0, 9, 0, 444)) (mi_k195.2 _ _ (by rfl)) (ft_invS mi_pq192 (by rfl)) (cy := mi_c192) mi_pq192 rfl (kc192_116 hJ7.I hJ7.R x1 (oz35 hp0.1 hp0.2) (kCode_of (i1 := i2) hE_code (hG8.fi 7432 rfl) (hG8.fa 120 rfl) (hG8.fa 121 rfl) (hG8.fa 122 rfl) (hG8.fa 123 rfl))) (by decide) ?_
        intro vg9 ig9 ag9 qg9 rg9 kg9 hg9
        have hGg9 := kG_call hJ7 kg9 (by decide +kernel)
        refine ft_go mi_k195 1 37 [(5, .int l5_2), (4, .int l4_2), (3, .int ((a 142).getD x2.toNatClampNeg 0)), (0, .ref 116), (1, .int x1), (2, .int x2)] [.int (-2), .int vg9] ig9 ag9 qg9 rg9 (by rfl) ?_
        refine ft_if mi_k195 (vg9 != (-2)) 49 40 [(5, .int l5_2), (4, .int l4_2), (3, .int ((a 142).getD x2.toNatClampNeg 0)), (0, .ref 116), (1, .int x1), (2, .int x2)] [] (by rfl) (fun c => ?_) (fun c => ?_)
        ·
          have c10 : vg9.toInt ≠ ((-2) : Int32).toInt := kd_ne c; clear c
          have s11 : (l5_2 + 1).toInt = l5_2.toInt + (1 : Int32).toInt := kd_add (oz12 p2_0 kn1) (oz442 c6 fi2_7424.2 kn1)
          refine ft_go mi_k195 2 13 [(5, .int (l5_2 + 1)), (4, .int l4_2), (3, .int ((a 142).getD x2.toNatClampNeg 0)), (0, .ref 116), (1, .int x1), (2, .int x2)] [] ig9 ag9 qg9 rg9 (by rfl) ?_
          have fig9_7424 : ((0 : Int) ≤ (ig9 7424).toInt) ∧ ((ig9 7424).toInt ≤ 8) := hGg9.I.1 7424
          have efig9_7424 : (ig9 7424).toInt = (i2 7424).toInt := kg9.ti 7424 rfl
          exact ih2 _ _ _ _ _ _ hGg9 (oz14 p2_0 s11 kn1) (kj_meas (oz308 efig9_7424 s11 kn1) (oz45 c6) hm2)
        ·
          have c12 : vg9.toInt = ((-2) : Int32).toInt := kd_neF c; clear c
          have s13 : ((1 : Int) ≤ (1 <<< (l5_2 &&& 31)).toInt) ∧ ((1 <<< (l5_2 &&& 31)).toInt ≤ 256) := kd_shl1 (oz3 p2_0) (oz513 c6 fi2_7424.2)
          have s14 : (l5_2 + 1).toInt = l5_2.toInt + (1 : Int32).toInt := kd_add (oz12 p2_0 kn1) (oz442 c6 fi2_7424.2 kn1)
          refine ft_go mi_k195 8 13 [(5, .int (l5_2 + 1)), (4, .int (l4_2 ||| (1 <<< (l5_2 &&& 31)))), (3, .int ((a 142).getD x2.toNatClampNeg 0)), (0, .ref 116), (1, .int x1), (2, .int x2)] [] ig9 ag9 qg9 rg9 (by rfl) ?_
          have fig9_7424 : ((0 : Int) ≤ (ig9 7424).toInt) ∧ ((ig9 7424).toInt ≤ 8) := hGg9.I.1 7424
          have efig9_7424 : (ig9 7424).toInt = (i2 7424).toInt := kg9.ti 7424 rfl
          exact ih2 _ _ _ _ _ _ hGg9 (oz14 p2_0 s14 kn1) (kj_meas (oz308 efig9_7424 s14 kn1) (oz45 c6) hm2)
  exact lp2 _ _ _ _ _ _ _ (kG_self _ hG.I hG.R) (oz46 kn0) (Nat.lt_succ_self _)
def w196_116 : kW := ([7464, 7465, 7466, 7467], [117, 118, 128, 129, 139, 141, 143, 144, 145], [], [])
def w196_116_L19 : kW := ([7464, 7465, 7466, 7467], [117, 118, 128, 129, 139, 141, 143, 144, 145], [], [])
set_option maxRecDepth 100000 in
theorem kc196_116 {i : Nat → Int32} {a : Nat → List Int32} {q : Nat → List Int64} {r : Nat → Nat} (hI : kI i a q) (hr : kr r) (x1 : Int32) (x2 : Int32) (x3 : Int32) (hp0 : ((0 : Int) ≤ x1.toInt) ∧ (x1.toInt ≤ 5)) (hp1 : ((0 : Int) ≤ x2.toInt) ∧ (x2.toInt ≤ 7)) (hE_code : kCode i a) : km 15 196 [.ref 116, .int x1, .int x2, .int x3] (ks i a q r) (kVI w196_116 i a q r (fun v i1 a1 q1 r1 => True)) := by
  have hG := kG_self w196_116 hI hr
  refine km_ofI (q := (mi_h196, mi_c196)) rfl (by decide) (Nat.le_of_ble_eq_true rfl) ?_
  intro P hP
  refine ft_go mi_k196 3 5 [(0, .ref 116), (1, .int x1), (2, .int x2), (3, .int x3)] [.int x2, .ref 117] i a q r (by rfl) ?_
  refine ko_iald3 mi_k196.1 (n := 24) (c := 24) (ax := (0, 0, 0, 0, 0)) (mi_k196.2 _ _ (by rfl)) (by rfl) (ksG117 _ _ _ _) (hG.I.2.1 117) rfl (oz3 hp1.1) (oz248 hp1.2) ?_
  refine ft_go mi_k196 7 19 [(7, .int 9), (6, .int (-2)), (5, .int 0), (4, .int ((a 117).getD x2.toNatClampNeg 0)), (0, .ref 116), (1, .int x1), (2, .int x2), (3, .int x3)] [] i a q r (by rfl) ?_
  have lp1 : ∀ (nz : Nat) (i1 : Nat → Int32) (a1 : Nat → List Int32) (q1 : Nat → List Int64) (r1 : Nat → Nat) (l7_1 : Int32) (l6_1 : Int32) (l5_1 : Int32), kG w196_116_L19 i a q r i1 a1 q1 r1 → ((-1) : Int) ≤ l7_1.toInt → ((l7_1.toInt + 1)).toNat < nz → ko 15 (mi_h196, mi_c196) P (19, [(7, .int l7_1), (6, .int l6_1), (5, .int l5_1), (4, .int ((a 117).getD x2.toNatClampNeg 0)), (0, .ref 116), (1, .int x1), (2, .int x2), (3, .int x3)], [], (0, 0), ks i1 a1 q1 r1) := by
    intro nz
    induction nz with
    | zero =>
      intro _ _ _ _ _ _ _ _ _ hm
      exact absurd hm (Nat.not_lt_zero _)
    | succ nz ih1 =>
      intro i1 a1 q1 r1 l7_1 l6_1 l5_1 hL1 p1_0 hm1
      refine ft_go mi_k196 1 21 [(7, .int l7_1), (6, .int l6_1), (5, .int l5_1), (4, .int ((a 117).getD x2.toNatClampNeg 0)), (0, .ref 116), (1, .int x1), (2, .int x2), (3, .int x3)] [.int l7_1] i1 a1 q1 r1 (by rfl) ?_
      refine ft_if mi_k196 (decide (l7_1 < 0)) 58 24 [(7, .int l7_1), (6, .int l6_1), (5, .int l5_1), (4, .int ((a 117).getD x2.toNatClampNeg 0)), (0, .ref 116), (1, .int x1), (2, .int x2), (3, .int x3)] [] (by rfl) (fun c => ?_) (fun c => ?_)
      ·
        have c2 : l7_1.toInt < (0 : Int32).toInt := kd_lt c; clear c
        have hG3 := kG_call hG hL1 (by decide +kernel)
        refine ft_go mi_k196 4 65 [(7, .int l7_1), (6, .int l6_1), (5, .int l5_1), (4, .int ((a 117).getD x2.toNatClampNeg 0)), (0, .ref 116), (1, .int x1), (2, .int x2), (3, .int x3)] [.int ((a 117).getD x2.toNatClampNeg 0), .int x2, .ref 117] i1 a1 q1 r1 (by rfl) ?_
        refine ko_iast3 mi_k196.1 (n := 24) (c := 24) (ax := (0, 0, 0, 0, 0)) (mi_k196.2 _ _ (by rfl)) (by rfl) (ksG117 _ _ _ _) (ksA117 _ _ _ _) (hG3.I.2.1 117) rfl (oz3 hp1.1) (oz248 hp1.2) ?_
        intro a4 ea4 fa4
        have hJ4 := kG_a3 hG3 117 rfl ea4 fa4 (kd_bd _)
        refine ft_go mi_k196 1 67 [(7, .int l7_1), (6, .int l6_1), (5, .int l5_1), (4, .int ((a 117).getD x2.toNatClampNeg 0)), (0, .ref 116), (1, .int x1), (2, .int x2), (3, .int x3)] [.int x3] i1 a4 q1 r1 (by rfl) ?_
        refine ft_if mi_k196 (x3 == 0) 75 70 [(7, .int l7_1), (6, .int l6_1), (5, .int l5_1), (4, .int ((a 117).getD x2.toNatClampNeg 0)), (0, .ref 116), (1, .int x1), (2, .int x2), (3, .int x3)] [] (by rfl) (fun c => ?_) (fun c => ?_)
        ·
          have c5 : x3.toInt = (0 : Int32).toInt := kd_eq c; clear c
          refine ft_go mi_k196 1 77 [(7, .int l7_1), (6, .int l6_1), (5, .int l5_1), (4, .int ((a 117).getD x2.toNatClampNeg 0)), (0, .ref 116), (1, .int x1), (2, .int x2), (3, .int x3)] [.int l5_1] i1 a4 q1 r1 (by rfl) ?_
          exact ft_ret mi_k196 (by rfl) (hP l5_1 _ _ _ _ hJ4 trivial)
        ·
          have c6 : x3.toInt ≠ (0 : Int32).toInt := kd_eqF c; clear c
          refine ft_go mi_k196 2 77 [(7, .int l7_1), (6, .int l6_1), (5, .int l5_1), (4, .int ((a 117).getD x2.toNatClampNeg 0)), (0, .ref 116), (1, .int x1), (2, .int x2), (3, .int x3)] [.int l6_1] i1 a4 q1 r1 (by rfl) ?_
          exact ft_ret mi_k196 (by rfl) (hP l6_1 _ _ _ _ hJ4 trivial)
      ·
        have c7 : (0 : Int32).toInt ≤ l7_1.toInt := kd_ltF c; clear c
        refine ft_go mi_k196 4 31 [(7, .int l7_1), (6, .int l6_1), (5, .int l5_1), (4, .int ((a 117).getD x2.toNatClampNeg 0)), (0, .ref 116), (1, .int x1), (2, .int x2), (3, .int x3)] [.int l7_1, .int x2, .ref 117] i1 a1 q1 r1 (by rfl) ?_
        refine ko_iast3 mi_k196.1 (n := 24) (c := 24) (ax := (0, 0, 0, 0, 0)) (mi_k196.2 _ _ (by rfl)) (by rfl) (ksG117 _ _ _ _) (ksA117 _ _ _ _) (hL1.I.2.1 117) rfl (oz3 hp1.1) (oz248 hp1.2) ?_
        intro a8 ea8 fa8
        have hJ8 := kG_a3 hL1 117 rfl ea8 fa8 (kd_bd _)
        refine ft_go mi_k196 2 34 [(7, .int l7_1), (6, .int l6_1), (5, .int l5_1), (4, .int ((a 117).getD x2.toNatClampNeg 0)), (0, .ref 116), (1, .int x1), (2, .int x2), (3, .int x3)] [.int x1, .ref 116] i1 a8 q1 r1 (by rfl) ?_
        have hG9 := kG_call hG hJ8 (by decide +kernel)
        refine ko_callI mi_k196.1 (pc := 34) (ls := [(7, .int l7_1), (6, .int l6_1), (5, .int l5_1), (4, .int ((a 117).getD x2.toNatClampNeg 0)), (0, .ref 116), (1, .int x1), (2, .int x2), (3, .int x3)]) (st := [.int x1, .ref 116]) (h := ks i1 a8 q1 r1) (i := (.invokevirtual 320, 3, 192, 0, 9, 0, 444)) (mi_k196.2 _ _ (by rfl)) (ft_invS mi_pq192 (by rfl)) (cy := mi_c192) mi_pq192 rfl (kc192_116 hJ8.I hJ8.R x1 (oz35 hp0.1 hp0.2) (kCode_of (i1 := i1) hE_code (hG9.fi 7432 rfl) (hG9.fa 120 rfl) (hG9.fa 121 rfl) (hG9.fa 122 rfl) (hG9.fa 123 rfl))) (by decide) ?_
        intro vg10 ig10 ag10 qg10 rg10 kg10 hg10
        have hGg10 := kG_call hJ8 kg10 (by decide +kernel)
        refine ft_go mi_k196 1 39 [(7, .int l7_1), (6, .int l6_1), (5, .int l5_1), (4, .int ((a 117).getD x2.toNatClampNeg 0)), (0, .ref 116), (1, .int x1), (2, .int x2), (3, .int x3)] [.int (-2), .int vg10] ig10 ag10 qg10 rg10 (by rfl) ?_
        refine ft_if mi_k196 (vg10 == (-2)) 45 42 [(7, .int l7_1), (6, .int l6_1), (5, .int l5_1), (4, .int ((a 117).getD x2.toNatClampNeg 0)), (0, .ref 116), (1, .int x1), (2, .int x2), (3, .int x3)] [] (by rfl) (fun c => ?_) (fun c => ?_)
        ·
          have c11 : vg10.toInt = ((-2) : Int32).toInt := kd_eq c; clear c
          have b12 : ((-2147483648 : Int) ≤ l5_1.toInt) ∧ (l5_1.toInt ≤ 2147483647) := kd_bd l5_1
          have b13 : ((-2147483648 : Int) ≤ l7_1.toInt) ∧ (l7_1.toInt ≤ 2147483647) := kd_bd l7_1
          have s14 : (l7_1 + (-1)).toInt = l7_1.toInt + ((-1) : Int32).toInt := kd_add (oz516 p1_0 knm1) (oz517 b13.2 knm1)
          refine ft_go mi_k196 5 19 [(7, .int (l7_1 + (-1))), (6, .int l7_1), (5, .int (l5_1 + 1)), (4, .int ((a 117).getD x2.toNatClampNeg 0)), (0, .ref 116), (1, .int x1), (2, .int x2), (3, .int x3)] [] ig10 ag10 qg10 rg10 (by rfl) ?_
          exact ih1 _ _ _ _ _ _ _ hGg10 (oz518 c7 s14 kn0 knm1) (kj_meas (oz519 s14 knm1) (oz520 c7 kn0) hm1)
        ·
          have c15 : vg10.toInt ≠ ((-2) : Int32).toInt := kd_eqF c; clear c
          have b16 : ((-2147483648 : Int) ≤ l7_1.toInt) ∧ (l7_1.toInt ≤ 2147483647) := kd_bd l7_1
          have s17 : (l7_1 + (-1)).toInt = l7_1.toInt + ((-1) : Int32).toInt := kd_add (oz516 p1_0 knm1) (oz517 b16.2 knm1)
          refine ft_go mi_k196 3 19 [(7, .int (l7_1 + (-1))), (6, .int l6_1), (5, .int l5_1), (4, .int ((a 117).getD x2.toNatClampNeg 0)), (0, .ref 116), (1, .int x1), (2, .int x2), (3, .int x3)] [] ig10 ag10 qg10 rg10 (by rfl) ?_
          exact ih1 _ _ _ _ _ _ _ hGg10 (oz518 c7 s17 kn0 knm1) (kj_meas (oz519 s17 knm1) (oz520 c7 kn0) hm1)
  exact lp1 _ _ _ _ _ _ _ _ (kG_self _ hG.I hG.R) (oz521 kn9) (Nat.lt_succ_self _)
def w194_116 : kW := ([7426, 7464, 7465, 7466, 7467], [118, 128, 129, 139, 141, 143, 144, 145], [], [])
def w194_116_L10 : kW := ([7426, 7464, 7465, 7466, 7467], [118, 128, 129, 139, 141, 143, 144, 145], [], [])
set_option maxRecDepth 100000 in
theorem kc194_116 {i : Nat → Int32} {a : Nat → List Int32} {q : Nat → List Int64} {r : Nat → Nat} (hI : kI i a q) (hr : kr r) (x1 : Int32) (hp0 : ((0 : Int) ≤ x1.toInt) ∧ (x1.toInt ≤ 5)) (hE_code : kCode i a) : km 15 194 [.ref 116, .int x1] (ks i a q r) (kVI w194_116 i a q r (fun v i1 a1 q1 r1 => True)) := by
  have hG := kG_self w194_116 hI hr
  refine km_ofI (q := (mi_h194, mi_c194)) rfl (by decide) (Nat.le_of_ble_eq_true rfl) ?_
  intro P hP
  have fi_7426 : ((1 : Int) ≤ (i 7426).toInt) ∧ ((i 7426).toInt ≤ 5) := hG.I.1 7426
  refine ft_go mi_k194 7 10 [(4, .int 1), (3, .int 0), (2, .int (i 7426)), (0, .ref 116), (1, .int x1)] [] i a q r (by rfl) ?_
  have lp1 : ∀ (nz : Nat) (i1 : Nat → Int32) (a1 : Nat → List Int32) (q1 : Nat → List Int64) (r1 : Nat → Nat) (l4_1 : Int32) (l3_1 : Int32), kG w194_116_L10 i a q r i1 a1 q1 r1 → (1 : Int) ≤ l4_1.toInt → ((6 - l4_1.toInt)).toNat < nz → ko 15 (mi_h194, mi_c194) P (10, [(4, .int l4_1), (3, .int l3_1), (2, .int (i 7426)), (0, .ref 116), (1, .int x1)], [], (0, 0), ks i1 a1 q1 r1) := by
    intro nz
    induction nz with
    | zero =>
      intro _ _ _ _ _ _ _ _ hm
      exact absurd hm (Nat.not_lt_zero _)
    | succ nz ih1 =>
      intro i1 a1 q1 r1 l4_1 l3_1 hL1 p1_0 hm1
      refine ft_go mi_k194 2 14 [(4, .int l4_1), (3, .int l3_1), (2, .int (i 7426)), (0, .ref 116), (1, .int x1)] [.int 6, .int l4_1] i1 a1 q1 r1 (by rfl) ?_
      refine ft_if mi_k194 (decide (6 ≤ l4_1)) 46 17 [(4, .int l4_1), (3, .int l3_1), (2, .int (i 7426)), (0, .ref 116), (1, .int x1)] [] (by rfl) (fun c => ?_) (fun c => ?_)
      ·
        have c2 : (6 : Int32).toInt ≤ l4_1.toInt := kd_le c; clear c
        have hG3 := kG_call hG hL1 (by decide +kernel)
        have hJ4 := kG_i hG3 7426 rfl (v := (i 7426)) ⟨(oz526 fi_7426.1), (oz527 fi_7426.2)⟩
        refine ft_go mi_k194 4 52 [(4, .int l4_1), (3, .int l3_1), (2, .int (i 7426)), (0, .ref 116), (1, .int x1)] [.int l3_1] (ku i1 7426 (i 7426)) a1 q1 r1 (by rfl) ?_
        exact ft_ret mi_k194 (by rfl) (hP l3_1 _ _ _ _ hJ4 trivial)
      ·
        have c5 : l4_1.toInt < (6 : Int32).toInt := kd_leF c; clear c
        have hJ6 := kG_i hL1 7426 rfl (v := l4_1) ⟨(oz526 p1_0), (oz528 c5 kn6)⟩
        refine ft_go mi_k194 5 25 [(4, .int l4_1), (3, .int l3_1), (2, .int (i 7426)), (0, .ref 116), (1, .int x1)] [.int x1, .ref 116] (ku i1 7426 l4_1) a1 q1 r1 (by rfl) ?_
        have hG7 := kG_call hG hJ6 (by decide +kernel)
        refine ko_callI mi_k194.1 (pc := 25) (ls := [(4, .int l4_1), (3, .int l3_1), (2, .int (i 7426)), (0, .ref 116), (1, .int x1)]) (st := [.int x1, .ref 116]) (h := ks (ku i1 7426 l4_1) a1 q1 r1) (i := (.invokevirtual 320, 3, 192, 0, 9, 0, 444)) (mi_k194.2 _ _ (by rfl)) (ft_invS mi_pq192 (by rfl)) (cy := mi_c192) mi_pq192 rfl (kc192_116 hJ6.I hJ6.R x1 (oz35 hp0.1 hp0.2) (kCode_of (i1 := ku i1 7426 l4_1) hE_code (hG7.fi 7432 rfl) (hG7.fa 120 rfl) (hG7.fa 121 rfl) (hG7.fa 122 rfl) (hG7.fa 123 rfl))) (by decide) ?_
        intro vg8 ig8 ag8 qg8 rg8 kg8 hg8
        have hGg8 := kG_call hJ6 kg8 (by decide +kernel)
        refine ft_go mi_k194 1 30 [(4, .int l4_1), (3, .int l3_1), (2, .int (i 7426)), (0, .ref 116), (1, .int x1)] [.int (-2), .int vg8] ig8 ag8 qg8 rg8 (by rfl) ?_
        refine ft_if mi_k194 (vg8 != (-2)) 40 33 [(4, .int l4_1), (3, .int l3_1), (2, .int (i 7426)), (0, .ref 116), (1, .int x1)] [] (by rfl) (fun c => ?_) (fun c => ?_)
        ·
          have c9 : vg8.toInt ≠ ((-2) : Int32).toInt := kd_ne c; clear c
          have s10 : (l4_1 + 1).toInt = l4_1.toInt + (1 : Int32).toInt := kd_add (oz491 p1_0 kn1) (oz529 c5 kn6 kn1)
          refine ft_go mi_k194 2 10 [(4, .int (l4_1 + 1)), (3, .int l3_1), (2, .int (i 7426)), (0, .ref 116), (1, .int x1)] [] ig8 ag8 qg8 rg8 (by rfl) ?_
          exact ih1 _ _ _ _ _ _ hGg8 (oz492 p1_0 s10 kn1) (kj_meas (oz530 s10 kn1) (oz531 c5 kn6) hm1)
        ·
          have c11 : vg8.toInt = ((-2) : Int32).toInt := kd_neF c; clear c
          have s12 : ((1 : Int) ≤ (1 <<< (l4_1 &&& 31)).toInt) ∧ ((1 <<< (l4_1 &&& 31)).toInt ≤ 256) := kd_shl1 (oz489 p1_0) (oz532 c5 kn6)
          have s13 : (1 <<< (l4_1 &&& 31)).toInt ≤ 32 := kd_shl32 (oz489 p1_0) (oz528 c5 kn6)
          have s14 : (l4_1 + 1).toInt = l4_1.toInt + (1 : Int32).toInt := kd_add (oz491 p1_0 kn1) (oz529 c5 kn6 kn1)
          refine ft_go mi_k194 8 10 [(4, .int (l4_1 + 1)), (3, .int (l3_1 ||| (1 <<< (l4_1 &&& 31)))), (2, .int (i 7426)), (0, .ref 116), (1, .int x1)] [] ig8 ag8 qg8 rg8 (by rfl) ?_
          exact ih1 _ _ _ _ _ _ hGg8 (oz492 p1_0 s14 kn1) (kj_meas (oz530 s14 kn1) (oz531 c5 kn6) hm1)
  exact lp1 _ _ _ _ _ _ _ (kG_self _ hG.I hG.R) (oz494 kn1) (Nat.lt_succ_self _)
def w197_116 : kW := ([7426, 7464, 7465, 7466, 7467, 7469], [117, 118, 128, 129, 139, 141, 142, 143, 144, 145], [], [])
set_option maxRecDepth 100000 in
theorem kc197_116 {i : Nat → Int32} {a : Nat → List Int32} {q : Nat → List Int64} {r : Nat → Nat} (hI : kI i a q) (hr : kr r) (x1 : Int32) (x2 : Int32) (x3 : Int32) (hE_code : kCode i a) : km 17 197 [.ref 116, .int x1, .int x2, .int x3] (ks i a q r) (kVI w197_116 i a q r (fun v i1 a1 q1 r1 => True)) := by
  have hG := kG_self w197_116 hI hr
  refine km_ofI (q := (mi_h197, mi_c197)) rfl (by decide) (Nat.le_of_ble_eq_true rfl) ?_
  intro P hP
  refine ft_go mi_k197 2 2 [(0, .ref 116), (1, .int x1), (2, .int x2), (3, .int x3)] [.int x1, .ref 116] i a q r (by rfl) ?_
  refine ko_callPI mi_k197.1 (pc := 2) (ls := [(0, .ref 116), (1, .int x1), (2, .int x2), (3, .int x3)]) (st := [.int x1, .ref 116]) (h := ks i a q r) (i := (.invokevirtual 314, 3, 190, 0, 9, 0, 442)) (mi_k197.2 _ _ (by rfl)) (ft_invS mi_pq190 (by rfl)) (cy := mi_c190) mi_pq190 rfl (kc190_116 hG.I hG.R x1) (by decide) ?_
  intro vg1 hg1
  rcases hg1 with ⟨eg1, hg1⟩ | ⟨eg1, hg1⟩
  ·
    subst eg1
    have z2 : ((0 : Int) ≤ x1.toInt) ∧ (((0 : Int) ≤ (x1.toInt / 10)) ∧ ((x1.toInt / 10) ≤ 5)) ∧ ((x1.toInt % 10) ≤ 5) := hg1
    refine ft_go mi_k197 4 11 [(0, .ref 116), (1, .int x1), (2, .int x2), (3, .int x3)] [.int 3, .int 0, .int x3] i a q r (by rfl) ?_
    refine ko_callPI mi_k197.1 (pc := 11) (ls := [(0, .ref 116), (1, .int x1), (2, .int x2), (3, .int x3)]) (st := [.int 3, .int 0, .int x3]) (h := ks i a q r) (i := (.invokestatic 119, 3, 131, 0, 9, 0, 379)) (mi_k197.2 _ _ (by rfl)) (ft_invS mi_pq131 (by rfl)) (cy := mi_c131) mi_pq131 rfl (kc131 hG.I hG.R x3 0 3) (by decide) ?_
    intro vg3 hg3
    rcases hg3 with ⟨eg3, hg3⟩ | ⟨eg3, hg3⟩
    ·
      subst eg3
      have z4 : ((0 : Int32).toInt ≤ x3.toInt) ∧ (x3.toInt ≤ (3 : Int32).toInt) := hg3
      refine ft_go mi_k197 2 18 [(0, .ref 116), (1, .int x1), (2, .int x2), (3, .int x3)] [.int x2] i a q r (by rfl) ?_
      refine ft_if mi_k197 (decide (x2 < 0)) 42 21 [(0, .ref 116), (1, .int x1), (2, .int x2), (3, .int x3)] [] (by rfl) (fun c => ?_) (fun c => ?_)
      ·
        have c5 : x2.toInt < (0 : Int32).toInt := kd_lt c; clear c
        refine ft_go mi_k197 1 43 [(0, .ref 116), (1, .int x1), (2, .int x2), (3, .int x3)] [.int (-1)] i a q r (by rfl) ?_
        exact ft_ret mi_k197 (by rfl) (hP (-1) _ _ _ _ hG trivial)
      ·
        have c6 : (0 : Int32).toInt ≤ x2.toInt := kd_ltF c; clear c
        refine ft_go mi_k197 1 22 [(0, .ref 116), (1, .int x1), (2, .int x2), (3, .int x3)] [.int x3] i a q r (by rfl) ?_
        refine ft_if mi_k197 (x3 != 0) 29 25 [(0, .ref 116), (1, .int x1), (2, .int x2), (3, .int x3)] [] (by rfl) (fun c => ?_) (fun c => ?_)
        ·
          have c7 : x3.toInt ≠ (0 : Int32).toInt := kd_ne c; clear c
          refine ft_go mi_k197 2 31 [(0, .ref 116), (1, .int x1), (2, .int x2), (3, .int x3)] [.int 1, .int x3] i a q r (by rfl) ?_
          refine ft_if mi_k197 (decide (x3 ≤ 1)) 44 34 [(0, .ref 116), (1, .int x1), (2, .int x2), (3, .int x3)] [] (by rfl) (fun c => ?_) (fun c => ?_)
          ·
            have c8 : x3.toInt ≤ (1 : Int32).toInt := kd_le c; clear c
            refine ft_go mi_k197 2 46 [(0, .ref 116), (1, .int x1), (2, .int x2), (3, .int x3)] [.int x1, .ref 116] i a q r (by rfl) ?_
            refine ko_callPI mi_k197.1 (pc := 46) (ls := [(0, .ref 116), (1, .int x1), (2, .int x2), (3, .int x3)]) (st := [.int x1, .ref 116]) (h := ks i a q r) (i := (.invokevirtual 317, 3, 191, 0, 9, 0, 443)) (mi_k197.2 _ _ (by rfl)) (ft_invS mi_pq191 (by rfl)) (cy := mi_c191) mi_pq191 rfl (kc191_116 hG.I hG.R x1 (oz503 z2.2.1.1 z2.2.1.2) (oz3 z2.1) (oz504 z2.2.2)) (by decide) ?_
            intro vg9 hg9
            have z10 : (vg9.toInt < 0) ∨ (vg9.toInt = 0) := hg9
            refine ft_go mi_k197 2 53 [(4, .int vg9), (0, .ref 116), (1, .int x1), (2, .int x2), (3, .int x3)] [.int vg9] i a q r (by rfl) ?_
            refine ft_if mi_k197 (decide (0 ≤ vg9)) 59 56 [(4, .int vg9), (0, .ref 116), (1, .int x1), (2, .int x2), (3, .int x3)] [] (by rfl) (fun c => ?_) (fun c => ?_)
            ·
              have c11 : (0 : Int32).toInt ≤ vg9.toInt := kd_le c; clear c
              have s12 : (x1 / 10).toInt = (x1.toInt / 10) := kd_div 10 kn10 (by decide) (oz3 z2.1)
              refine ft_go mi_k197 4 64 [(4, .int vg9), (0, .ref 116), (1, .int x1), (2, .int x2), (3, .int x3)] [.int (x1 / 10), .ref 116] i a q r (by rfl) ?_
              refine ko_callN mi_k197.1 (pc := 64) (ls := [(4, .int vg9), (0, .ref 116), (1, .int x1), (2, .int x2), (3, .int x3)]) (st := [.int (x1 / 10), .ref 116]) (h := ks i a q r) (i := (.invokevirtual 279, 3, 174, 0, 9, 0, 411)) (mi_k197.2 _ _ (by rfl)) (ft_invS mi_pq174 (by rfl)) (cy := mi_c174) mi_pq174 rfl (kc174_116 hG.I hG.R (x1 / 10) (oz505 s12 z2.1 z2.2.1.2 z2.2.2)) (by decide) ?_
              intro ig13 ag13 qg13 rg13 kg13 hg13
              have hGg13 := kG_call hG kg13 (by decide +kernel)
              have fig13_7469 : ((0 : Int) ≤ (ig13 7469).toInt) ∧ ((ig13 7469).toInt ≤ 21) := hGg13.I.1 7469
              have z14 : (ig13 7469).toInt ≤ 20 := hg13
              refine ft_go mi_k197 2 69 [(4, .int vg9), (0, .ref 116), (1, .int x1), (2, .int x2), (3, .int x3)] [.int 1, .int x3] ig13 ag13 qg13 rg13 (by rfl) ?_
              refine ft_if mi_k197 (x3 != 1) 82 72 [(4, .int vg9), (0, .ref 116), (1, .int x1), (2, .int x2), (3, .int x3)] [] (by rfl) (fun c => ?_) (fun c => ?_)
              ·
                have c15 : x3.toInt ≠ (1 : Int32).toInt := kd_ne c; clear c
                exact (oz510 c15 c7 c8 z4.1 kn1 kn0).elim
              ·
                have c16 : x3.toInt = (1 : Int32).toInt := kd_neF c; clear c
                refine ft_go mi_k197 3 77 [(4, .int vg9), (0, .ref 116), (1, .int x1), (2, .int x2), (3, .int x3)] [.int (ig13 7469), .int x2] ig13 ag13 qg13 rg13 (by rfl) ?_
                refine ft_if mi_k197 (decide (x2 < (ig13 7469))) 82 80 [(4, .int vg9), (0, .ref 116), (1, .int x1), (2, .int x2), (3, .int x3)] [] (by rfl) (fun c => ?_) (fun c => ?_)
                ·
                  have c17 : x2.toInt < (ig13 7469).toInt := kd_lt c; clear c
                  refine ft_go mi_k197 1 83 [(4, .int vg9), (0, .ref 116), (1, .int x1), (2, .int x2), (3, .int x3)] [.int x3] ig13 ag13 qg13 rg13 (by rfl) ?_
                  refine ft_if mi_k197 (x3 != 0) 97 86 [(4, .int vg9), (0, .ref 116), (1, .int x1), (2, .int x2), (3, .int x3)] [] (by rfl) (fun c => ?_) (fun c => ?_)
                  ·
                    have c18 : x3.toInt ≠ (0 : Int32).toInt := kd_ne c; clear c
                    refine ft_go mi_k197 2 99 [(4, .int vg9), (0, .ref 116), (1, .int x1), (2, .int x2), (3, .int x3)] [.int 1, .int x3] ig13 ag13 qg13 rg13 (by rfl) ?_
                    refine ft_if mi_k197 (x3 != 1) 114 102 [(4, .int vg9), (0, .ref 116), (1, .int x1), (2, .int x2), (3, .int x3)] [] (by rfl) (fun c => ?_) (fun c => ?_)
                    ·
                      have c19 : x3.toInt ≠ (1 : Int32).toInt := kd_ne c; clear c
                      exact (oz511 c16 c19 c8 kn1).elim
                    ·
                      have c20 : x3.toInt = (1 : Int32).toInt := kd_neF c; clear c
                      have s21 : (x1 - x1 / 10 * 10).toInt = (x1.toInt % 10) := kd_rem 10 kn10 (by decide) (oz3 z2.1)
                      refine ft_go mi_k197 5 108 [(4, .int vg9), (0, .ref 116), (1, .int x1), (2, .int x2), (3, .int x3)] [.int x2, .int (x1 - x1 / 10 * 10), .ref 116] ig13 ag13 qg13 rg13 (by rfl) ?_
                      refine ko_callI mi_k197.1 (pc := 108) (ls := [(4, .int vg9), (0, .ref 116), (1, .int x1), (2, .int x2), (3, .int x3)]) (st := [.int x2, .int (x1 - x1 / 10 * 10), .ref 116]) (h := ks ig13 ag13 qg13 rg13) (i := (.invokevirtual 326, 3, 195, 0, 9, 0, 447)) (mi_k197.2 _ _ (by rfl)) (ft_invS mi_pq195 (by rfl)) (cy := mi_c195) mi_pq195 rfl (kc195_116 hGg13.I hGg13.R (x1 - x1 / 10 * 10) x2 (oz509 s21 z2.2.2) (oz514 c17 c6 fig13_7469.2 kn0) (kCode_of (i1 := ig13) hE_code (hGg13.fi 7432 rfl) (hGg13.fa 120 rfl) (hGg13.fa 121 rfl) (hGg13.fa 122 rfl) (hGg13.fa 123 rfl))) (by decide) ?_
                      intro vg22 ig22 ag22 qg22 rg22 kg22 hg22
                      have hGg22 := kG_call hGg13 kg22 (by decide +kernel)
                      refine ft_go mi_k197 1 133 [(4, .int vg9), (0, .ref 116), (1, .int x1), (2, .int x2), (3, .int x3)] [.int vg22] ig22 ag22 qg22 rg22 (by rfl) ?_
                      exact ft_ret mi_k197 (by rfl) (hP vg22 _ _ _ _ hGg22 trivial)
                  ·
                    have c23 : x3.toInt = (0 : Int32).toInt := kd_neF c; clear c
                    exact (oz515 c16 c23 kn1 kn0).elim
                ·
                  have c24 : (ig13 7469).toInt ≤ x2.toInt := kd_ltF c; clear c
                  refine ft_go mi_k197 1 81 [(4, .int vg9), (0, .ref 116), (1, .int x1), (2, .int x2), (3, .int x3)] [.int (-1)] ig13 ag13 qg13 rg13 (by rfl) ?_
                  exact ft_ret mi_k197 (by rfl) (hP (-1) _ _ _ _ hGg13 trivial)
            ·
              have c25 : vg9.toInt < (0 : Int32).toInt := kd_leF c; clear c
              refine ft_go mi_k197 1 58 [(4, .int vg9), (0, .ref 116), (1, .int x1), (2, .int x2), (3, .int x3)] [.int vg9] i a q r (by rfl) ?_
              exact ft_ret mi_k197 (by rfl) (hP vg9 _ _ _ _ hG trivial)
          ·
            have c26 : (1 : Int32).toInt < x3.toInt := kd_leF c; clear c
            refine ft_go mi_k197 2 36 [(0, .ref 116), (1, .int x1), (2, .int x2), (3, .int x3)] [.int x2, .ref 116] i a q r (by rfl) ?_
            refine ko_callPI mi_k197.1 (pc := 36) (ls := [(0, .ref 116), (1, .int x1), (2, .int x2), (3, .int x3)]) (st := [.int x2, .ref 116]) (h := ks i a q r) (i := (.invokevirtual 137, 3, 132, 0, 9, 0, 387)) (mi_k197.2 _ _ (by rfl)) (ft_invS mi_pq132 (by rfl)) (cy := mi_c132) mi_pq132 rfl (kc132_116 hG.I hG.R x2) (by decide) ?_
            intro vg27 hg27
            rcases hg27 with ⟨eg27, hg27⟩ | ⟨eg27, hg27⟩
            ·
              subst eg27
              have fi_7424 : ((0 : Int) ≤ (i 7424).toInt) ∧ ((i 7424).toInt ≤ 8) := hG.I.1 7424
              have z28 : ((0 : Int) ≤ x2.toInt) ∧ (x2.toInt < (i 7424).toInt) := hg27
              refine ft_go mi_k197 3 46 [(0, .ref 116), (1, .int x1), (2, .int x2), (3, .int x3)] [.int x1, .ref 116] i a q r (by rfl) ?_
              refine ko_callPI mi_k197.1 (pc := 46) (ls := [(0, .ref 116), (1, .int x1), (2, .int x2), (3, .int x3)]) (st := [.int x1, .ref 116]) (h := ks i a q r) (i := (.invokevirtual 317, 3, 191, 0, 9, 0, 443)) (mi_k197.2 _ _ (by rfl)) (ft_invS mi_pq191 (by rfl)) (cy := mi_c191) mi_pq191 rfl (kc191_116 hG.I hG.R x1 (oz503 z2.2.1.1 z2.2.1.2) (oz3 z2.1) (oz504 z2.2.2)) (by decide) ?_
              intro vg29 hg29
              have z30 : (vg29.toInt < 0) ∨ (vg29.toInt = 0) := hg29
              refine ft_go mi_k197 2 53 [(4, .int vg29), (0, .ref 116), (1, .int x1), (2, .int x2), (3, .int x3)] [.int vg29] i a q r (by rfl) ?_
              refine ft_if mi_k197 (decide (0 ≤ vg29)) 59 56 [(4, .int vg29), (0, .ref 116), (1, .int x1), (2, .int x2), (3, .int x3)] [] (by rfl) (fun c => ?_) (fun c => ?_)
              ·
                have c31 : (0 : Int32).toInt ≤ vg29.toInt := kd_le c; clear c
                have s32 : (x1 / 10).toInt = (x1.toInt / 10) := kd_div 10 kn10 (by decide) (oz3 z2.1)
                refine ft_go mi_k197 4 64 [(4, .int vg29), (0, .ref 116), (1, .int x1), (2, .int x2), (3, .int x3)] [.int (x1 / 10), .ref 116] i a q r (by rfl) ?_
                refine ko_callN mi_k197.1 (pc := 64) (ls := [(4, .int vg29), (0, .ref 116), (1, .int x1), (2, .int x2), (3, .int x3)]) (st := [.int (x1 / 10), .ref 116]) (h := ks i a q r) (i := (.invokevirtual 279, 3, 174, 0, 9, 0, 411)) (mi_k197.2 _ _ (by rfl)) (ft_invS mi_pq174 (by rfl)) (cy := mi_c174) mi_pq174 rfl (kc174_116 hG.I hG.R (x1 / 10) (oz505 s32 z2.1 z2.2.1.2 z2.2.2)) (by decide) ?_
                intro ig33 ag33 qg33 rg33 kg33 hg33
                have hGg33 := kG_call hG kg33 (by decide +kernel)
                have fig33_7469 : ((0 : Int) ≤ (ig33 7469).toInt) ∧ ((ig33 7469).toInt ≤ 21) := hGg33.I.1 7469
                have z34 : (ig33 7469).toInt ≤ 20 := hg33
                refine ft_go mi_k197 2 69 [(4, .int vg29), (0, .ref 116), (1, .int x1), (2, .int x2), (3, .int x3)] [.int 1, .int x3] ig33 ag33 qg33 rg33 (by rfl) ?_
                refine ft_if mi_k197 (x3 != 1) 82 72 [(4, .int vg29), (0, .ref 116), (1, .int x1), (2, .int x2), (3, .int x3)] [] (by rfl) (fun c => ?_) (fun c => ?_)
                ·
                  have c35 : x3.toInt ≠ (1 : Int32).toInt := kd_ne c; clear c
                  refine ft_go mi_k197 1 83 [(4, .int vg29), (0, .ref 116), (1, .int x1), (2, .int x2), (3, .int x3)] [.int x3] ig33 ag33 qg33 rg33 (by rfl) ?_
                  refine ft_if mi_k197 (x3 != 0) 97 86 [(4, .int vg29), (0, .ref 116), (1, .int x1), (2, .int x2), (3, .int x3)] [] (by rfl) (fun c => ?_) (fun c => ?_)
                  ·
                    have c36 : x3.toInt ≠ (0 : Int32).toInt := kd_ne c; clear c
                    refine ft_go mi_k197 2 99 [(4, .int vg29), (0, .ref 116), (1, .int x1), (2, .int x2), (3, .int x3)] [.int 1, .int x3] ig33 ag33 qg33 rg33 (by rfl) ?_
                    refine ft_if mi_k197 (x3 != 1) 114 102 [(4, .int vg29), (0, .ref 116), (1, .int x1), (2, .int x2), (3, .int x3)] [] (by rfl) (fun c => ?_) (fun c => ?_)
                    ·
                      have c37 : x3.toInt ≠ (1 : Int32).toInt := kd_ne c; clear c
                      have s38 : (x1 - x1 / 10 * 10).toInt = (x1.toInt % 10) := kd_rem 10 kn10 (by decide) (oz3 z2.1)
                      refine ft_go mi_k197 7 122 [(4, .int vg29), (0, .ref 116), (1, .int x1), (2, .int x2), (3, .int x3)] [.int 3, .int x3, .int x2, .int (x1 - x1 / 10 * 10), .ref 116] ig33 ag33 qg33 rg33 (by rfl) ?_
                      refine ft_if mi_k197 (x3 != 3) 129 125 [(4, .int vg29), (0, .ref 116), (1, .int x1), (2, .int x2), (3, .int x3)] [.int x2, .int (x1 - x1 / 10 * 10), .ref 116] (by rfl) (fun c => ?_) (fun c => ?_)
                      ·
                        have c39 : x3.toInt ≠ (3 : Int32).toInt := kd_ne c; clear c
                        refine ft_go mi_k197 1 130 [(4, .int vg29), (0, .ref 116), (1, .int x1), (2, .int x2), (3, .int x3)] [.int 0, .int x2, .int (x1 - x1 / 10 * 10), .ref 116] ig33 ag33 qg33 rg33 (by rfl) ?_
                        refine ko_callI mi_k197.1 (pc := 130) (ls := [(4, .int vg29), (0, .ref 116), (1, .int x1), (2, .int x2), (3, .int x3)]) (st := [.int 0, .int x2, .int (x1 - x1 / 10 * 10), .ref 116]) (h := ks ig33 ag33 qg33 rg33) (i := (.invokevirtual 329, 3, 196, 0, 9, 0, 448)) (mi_k197.2 _ _ (by rfl)) (ft_invS mi_pq196 (by rfl)) (cy := mi_c196) mi_pq196 rfl (kc196_116 hGg33.I hGg33.R (x1 - x1 / 10 * 10) x2 0 (oz509 s38 z2.2.2) (oz522 c6 fi_7424.2 z28.2 kn0) (kCode_of (i1 := ig33) hE_code (hGg33.fi 7432 rfl) (hGg33.fa 120 rfl) (hGg33.fa 121 rfl) (hGg33.fa 122 rfl) (hGg33.fa 123 rfl))) (by decide) ?_
                        intro vg40 ig40 ag40 qg40 rg40 kg40 hg40
                        have hGg40 := kG_call hGg33 kg40 (by decide +kernel)
                        exact ft_ret mi_k197 (by rfl) (hP vg40 _ _ _ _ hGg40 trivial)
                      ·
                        have c41 : x3.toInt = (3 : Int32).toInt := kd_neF c; clear c
                        refine ft_go mi_k197 2 130 [(4, .int vg29), (0, .ref 116), (1, .int x1), (2, .int x2), (3, .int x3)] [.int 1, .int x2, .int (x1 - x1 / 10 * 10), .ref 116] ig33 ag33 qg33 rg33 (by rfl) ?_
                        refine ko_callI mi_k197.1 (pc := 130) (ls := [(4, .int vg29), (0, .ref 116), (1, .int x1), (2, .int x2), (3, .int x3)]) (st := [.int 1, .int x2, .int (x1 - x1 / 10 * 10), .ref 116]) (h := ks ig33 ag33 qg33 rg33) (i := (.invokevirtual 329, 3, 196, 0, 9, 0, 448)) (mi_k197.2 _ _ (by rfl)) (ft_invS mi_pq196 (by rfl)) (cy := mi_c196) mi_pq196 rfl (kc196_116 hGg33.I hGg33.R (x1 - x1 / 10 * 10) x2 1 (oz509 s38 z2.2.2) (oz522 c6 fi_7424.2 z28.2 kn0) (kCode_of (i1 := ig33) hE_code (hGg33.fi 7432 rfl) (hGg33.fa 120 rfl) (hGg33.fa 121 rfl) (hGg33.fa 122 rfl) (hGg33.fa 123 rfl))) (by decide) ?_
                        intro vg42 ig42 ag42 qg42 rg42 kg42 hg42
                        have hGg42 := kG_call hGg33 kg42 (by decide +kernel)
                        exact ft_ret mi_k197 (by rfl) (hP vg42 _ _ _ _ hGg42 trivial)
                    ·
                      have c43 : x3.toInt = (1 : Int32).toInt := kd_neF c; clear c
                      exact (oz523 c26 c43 kn1).elim
                  ·
                    have c44 : x3.toInt = (0 : Int32).toInt := kd_neF c; clear c
                    exact (oz524 c26 c44 kn1 kn0).elim
                ·
                  have c45 : x3.toInt = (1 : Int32).toInt := kd_neF c; clear c
                  exact (oz523 c26 c45 kn1).elim
              ·
                have c46 : vg29.toInt < (0 : Int32).toInt := kd_leF c; clear c
                refine ft_go mi_k197 1 58 [(4, .int vg29), (0, .ref 116), (1, .int x1), (2, .int x2), (3, .int x3)] [.int vg29] i a q r (by rfl) ?_
                exact ft_ret mi_k197 (by rfl) (hP vg29 _ _ _ _ hG trivial)
            ·
              subst eg27
              have fi_7424 : ((0 : Int) ≤ (i 7424).toInt) ∧ ((i 7424).toInt ≤ 8) := hG.I.1 7424
              have z47 : ¬ (((0 : Int) ≤ x2.toInt) ∧ (x2.toInt < (i 7424).toInt)) := hg27
              refine ft_go mi_k197 2 43 [(0, .ref 116), (1, .int x1), (2, .int x2), (3, .int x3)] [.int (-1)] i a q r (by rfl) ?_
              exact ft_ret mi_k197 (by rfl) (hP (-1) _ _ _ _ hG trivial)
        ·
          have c48 : x3.toInt = (0 : Int32).toInt := kd_neF c; clear c
          refine ft_go mi_k197 1 26 [(0, .ref 116), (1, .int x1), (2, .int x2), (3, .int x3)] [.int x2] i a q r (by rfl) ?_
          refine ft_if mi_k197 (x2 != 0) 42 29 [(0, .ref 116), (1, .int x1), (2, .int x2), (3, .int x3)] [] (by rfl) (fun c => ?_) (fun c => ?_)
          ·
            have c49 : x2.toInt ≠ (0 : Int32).toInt := kd_ne c; clear c
            refine ft_go mi_k197 1 43 [(0, .ref 116), (1, .int x1), (2, .int x2), (3, .int x3)] [.int (-1)] i a q r (by rfl) ?_
            exact ft_ret mi_k197 (by rfl) (hP (-1) _ _ _ _ hG trivial)
          ·
            have c50 : x2.toInt = (0 : Int32).toInt := kd_neF c; clear c
            refine ft_go mi_k197 2 31 [(0, .ref 116), (1, .int x1), (2, .int x2), (3, .int x3)] [.int 1, .int x3] i a q r (by rfl) ?_
            refine ft_if mi_k197 (decide (x3 ≤ 1)) 44 34 [(0, .ref 116), (1, .int x1), (2, .int x2), (3, .int x3)] [] (by rfl) (fun c => ?_) (fun c => ?_)
            ·
              have c51 : x3.toInt ≤ (1 : Int32).toInt := kd_le c; clear c
              refine ft_go mi_k197 2 46 [(0, .ref 116), (1, .int x1), (2, .int x2), (3, .int x3)] [.int x1, .ref 116] i a q r (by rfl) ?_
              refine ko_callPI mi_k197.1 (pc := 46) (ls := [(0, .ref 116), (1, .int x1), (2, .int x2), (3, .int x3)]) (st := [.int x1, .ref 116]) (h := ks i a q r) (i := (.invokevirtual 317, 3, 191, 0, 9, 0, 443)) (mi_k197.2 _ _ (by rfl)) (ft_invS mi_pq191 (by rfl)) (cy := mi_c191) mi_pq191 rfl (kc191_116 hG.I hG.R x1 (oz503 z2.2.1.1 z2.2.1.2) (oz3 z2.1) (oz504 z2.2.2)) (by decide) ?_
              intro vg52 hg52
              have z53 : (vg52.toInt < 0) ∨ (vg52.toInt = 0) := hg52
              refine ft_go mi_k197 2 53 [(4, .int vg52), (0, .ref 116), (1, .int x1), (2, .int x2), (3, .int x3)] [.int vg52] i a q r (by rfl) ?_
              refine ft_if mi_k197 (decide (0 ≤ vg52)) 59 56 [(4, .int vg52), (0, .ref 116), (1, .int x1), (2, .int x2), (3, .int x3)] [] (by rfl) (fun c => ?_) (fun c => ?_)
              ·
                have c54 : (0 : Int32).toInt ≤ vg52.toInt := kd_le c; clear c
                have s55 : (x1 / 10).toInt = (x1.toInt / 10) := kd_div 10 kn10 (by decide) (oz3 z2.1)
                refine ft_go mi_k197 4 64 [(4, .int vg52), (0, .ref 116), (1, .int x1), (2, .int x2), (3, .int x3)] [.int (x1 / 10), .ref 116] i a q r (by rfl) ?_
                refine ko_callN mi_k197.1 (pc := 64) (ls := [(4, .int vg52), (0, .ref 116), (1, .int x1), (2, .int x2), (3, .int x3)]) (st := [.int (x1 / 10), .ref 116]) (h := ks i a q r) (i := (.invokevirtual 279, 3, 174, 0, 9, 0, 411)) (mi_k197.2 _ _ (by rfl)) (ft_invS mi_pq174 (by rfl)) (cy := mi_c174) mi_pq174 rfl (kc174_116 hG.I hG.R (x1 / 10) (oz505 s55 z2.1 z2.2.1.2 z2.2.2)) (by decide) ?_
                intro ig56 ag56 qg56 rg56 kg56 hg56
                have hGg56 := kG_call hG kg56 (by decide +kernel)
                have fig56_7469 : ((0 : Int) ≤ (ig56 7469).toInt) ∧ ((ig56 7469).toInt ≤ 21) := hGg56.I.1 7469
                have z57 : (ig56 7469).toInt ≤ 20 := hg56
                refine ft_go mi_k197 2 69 [(4, .int vg52), (0, .ref 116), (1, .int x1), (2, .int x2), (3, .int x3)] [.int 1, .int x3] ig56 ag56 qg56 rg56 (by rfl) ?_
                refine ft_if mi_k197 (x3 != 1) 82 72 [(4, .int vg52), (0, .ref 116), (1, .int x1), (2, .int x2), (3, .int x3)] [] (by rfl) (fun c => ?_) (fun c => ?_)
                ·
                  have c58 : x3.toInt ≠ (1 : Int32).toInt := kd_ne c; clear c
                  refine ft_go mi_k197 1 83 [(4, .int vg52), (0, .ref 116), (1, .int x1), (2, .int x2), (3, .int x3)] [.int x3] ig56 ag56 qg56 rg56 (by rfl) ?_
                  refine ft_if mi_k197 (x3 != 0) 97 86 [(4, .int vg52), (0, .ref 116), (1, .int x1), (2, .int x2), (3, .int x3)] [] (by rfl) (fun c => ?_) (fun c => ?_)
                  ·
                    have c59 : x3.toInt ≠ (0 : Int32).toInt := kd_ne c; clear c
                    exact (oz525 c48 c59 z4.1 kn0).elim
                  ·
                    have c60 : x3.toInt = (0 : Int32).toInt := kd_neF c; clear c
                    have s61 : (x1 - x1 / 10 * 10).toInt = (x1.toInt % 10) := kd_rem 10 kn10 (by decide) (oz3 z2.1)
                    refine ft_go mi_k197 4 91 [(4, .int vg52), (0, .ref 116), (1, .int x1), (2, .int x2), (3, .int x3)] [.int (x1 - x1 / 10 * 10), .ref 116] ig56 ag56 qg56 rg56 (by rfl) ?_
                    refine ko_callI mi_k197.1 (pc := 91) (ls := [(4, .int vg52), (0, .ref 116), (1, .int x1), (2, .int x2), (3, .int x3)]) (st := [.int (x1 - x1 / 10 * 10), .ref 116]) (h := ks ig56 ag56 qg56 rg56) (i := (.invokevirtual 323, 3, 194, 0, 9, 0, 446)) (mi_k197.2 _ _ (by rfl)) (ft_invS mi_pq194 (by rfl)) (cy := mi_c194) mi_pq194 rfl (kc194_116 hGg56.I hGg56.R (x1 - x1 / 10 * 10) (oz509 s61 z2.2.2) (kCode_of (i1 := ig56) hE_code (hGg56.fi 7432 rfl) (hGg56.fa 120 rfl) (hGg56.fa 121 rfl) (hGg56.fa 122 rfl) (hGg56.fa 123 rfl))) (by decide) ?_
                    intro vg62 ig62 ag62 qg62 rg62 kg62 hg62
                    have hGg62 := kG_call hGg56 kg62 (by decide +kernel)
                    refine ft_go mi_k197 1 133 [(4, .int vg52), (0, .ref 116), (1, .int x1), (2, .int x2), (3, .int x3)] [.int vg62] ig62 ag62 qg62 rg62 (by rfl) ?_
                    exact ft_ret mi_k197 (by rfl) (hP vg62 _ _ _ _ hGg62 trivial)
                ·
                  have c63 : x3.toInt = (1 : Int32).toInt := kd_neF c; clear c
                  exact (oz533 c48 c63 kn0 kn1).elim
              ·
                have c64 : vg52.toInt < (0 : Int32).toInt := kd_leF c; clear c
                refine ft_go mi_k197 1 58 [(4, .int vg52), (0, .ref 116), (1, .int x1), (2, .int x2), (3, .int x3)] [.int vg52] i a q r (by rfl) ?_
                exact ft_ret mi_k197 (by rfl) (hP vg52 _ _ _ _ hG trivial)
            ·
              have c65 : (1 : Int32).toInt < x3.toInt := kd_leF c; clear c
              exact (oz534 c48 c65 kn0 kn1).elim
    ·
      subst eg3
      have z66 : ¬ (((0 : Int32).toInt ≤ x3.toInt) ∧ (x3.toInt ≤ (3 : Int32).toInt)) := hg3
      refine ft_go mi_k197 2 43 [(0, .ref 116), (1, .int x1), (2, .int x2), (3, .int x3)] [.int (-1)] i a q r (by rfl) ?_
      exact ft_ret mi_k197 (by rfl) (hP (-1) _ _ _ _ hG trivial)
  ·
    subst eg1
    have z67 : ¬ (((0 : Int) ≤ x1.toInt) ∧ (((0 : Int) ≤ (x1.toInt / 10)) ∧ ((x1.toInt / 10) ≤ 5)) ∧ ((x1.toInt % 10) ≤ 5)) := hg1
    refine ft_go mi_k197 2 43 [(0, .ref 116), (1, .int x1), (2, .int x2), (3, .int x3)] [.int (-1)] i a q r (by rfl) ?_
    exact ft_ret mi_k197 (by rfl) (hP (-1) _ _ _ _ hG trivial)
def w201_116 : kW := ([7464, 7465, 7466, 7467], [118, 128, 129, 139, 141], [], [])
def w201_116_L71 : kW := ([7464, 7465, 7466, 7467], [118, 128, 129, 141], [], [])
def w201_116_L91 : kW := ([7464, 7465, 7466, 7467], [118, 128, 129, 141], [], [])
set_option maxRecDepth 100000 in
theorem kc201_116 {i : Nat → Int32} {a : Nat → List Int32} {q : Nat → List Int64} {r : Nat → Nat} (hI : kI i a q) (hr : kr r) (x1 : Int32) (x2 : Int32) (x3 : Int32) (hE_code : kCode i a) : km 11 201 [.ref 116, .int x1, .int x2, .int x3] (ks i a q r) (kVI w201_116 i a q r (fun v i1 a1 q1 r1 => True)) := by
  have hG := kG_self w201_116 hI hr
  refine km_ofI (q := (mi_h201, mi_c201)) rfl (by decide) (Nat.le_of_ble_eq_true rfl) ?_
  intro P hP
  refine ft_go mi_k201 1 1 [(0, .ref 116), (1, .int x1), (2, .int x2), (3, .int x3)] [.int x2] i a q r (by rfl) ?_
  refine ft_if mi_k201 (decide (x2 < 0)) 56 4 [(0, .ref 116), (1, .int x1), (2, .int x2), (3, .int x3)] [] (by rfl) (fun c => ?_) (fun c => ?_)
  ·
    have c1 : x2.toInt < (0 : Int32).toInt := kd_lt c; clear c
    refine ft_go mi_k201 1 57 [(0, .ref 116), (1, .int x1), (2, .int x2), (3, .int x3)] [.int (-1)] i a q r (by rfl) ?_
    exact ft_ret mi_k201 (by rfl) (hP (-1) _ _ _ _ hG trivial)
  ·
    have c2 : (0 : Int32).toInt ≤ x2.toInt := kd_ltF c; clear c
    have s3 : (x2 / 10000).toInt = (x2.toInt / 10000) := kd_div 10000 kn10000 (by decide) (oz389 c2 kn0)
    refine ft_go mi_k201 5 12 [(0, .ref 116), (1, .int x1), (2, .int x2), (3, .int x3)] [.int 30, .int 1, .int (x2 / 10000)] i a q r (by rfl) ?_
    refine ko_callPI mi_k201.1 (pc := 12) (ls := [(0, .ref 116), (1, .int x1), (2, .int x2), (3, .int x3)]) (st := [.int 30, .int 1, .int (x2 / 10000)]) (h := ks i a q r) (i := (.invokestatic 119, 3, 131, 0, 9, 0, 379)) (mi_k201.2 _ _ (by rfl)) (ft_invS mi_pq131 (by rfl)) (cy := mi_c131) mi_pq131 rfl (kc131 hG.I hG.R (x2 / 10000) 1 30) (by decide) ?_
    intro vg4 hg4
    rcases hg4 with ⟨eg4, hg4⟩ | ⟨eg4, hg4⟩
    ·
      subst eg4
      have z5 : ((1 : Int32).toInt ≤ (x2 / 10000).toInt) ∧ ((x2 / 10000).toInt ≤ (30 : Int32).toInt) := hg4
      have s6 : (x2 / 100).toInt = (x2.toInt / 100) := kd_div 100 kn100 (by decide) (oz389 c2 kn0)
      have s7 : ((x2 / 100) - (x2 / 100) / 100 * 100).toInt = ((x2 / 100).toInt % 100) := kd_rem 100 kn100 (by decide) (oz535 c2 s6 kn0)
      refine ft_go mi_k201 8 28 [(0, .ref 116), (1, .int x1), (2, .int x2), (3, .int x3)] [.int 60, .int 1, .int ((x2 / 100) - (x2 / 100) / 100 * 100)] i a q r (by rfl) ?_
      refine ko_callPI mi_k201.1 (pc := 28) (ls := [(0, .ref 116), (1, .int x1), (2, .int x2), (3, .int x3)]) (st := [.int 60, .int 1, .int ((x2 / 100) - (x2 / 100) / 100 * 100)]) (h := ks i a q r) (i := (.invokestatic 119, 3, 131, 0, 9, 0, 379)) (mi_k201.2 _ _ (by rfl)) (ft_invS mi_pq131 (by rfl)) (cy := mi_c131) mi_pq131 rfl (kc131 hG.I hG.R ((x2 / 100) - (x2 / 100) / 100 * 100) 1 60) (by decide) ?_
      intro vg8 hg8
      rcases hg8 with ⟨eg8, hg8⟩ | ⟨eg8, hg8⟩
      ·
        subst eg8
        have z9 : ((1 : Int32).toInt ≤ ((x2 / 100) - (x2 / 100) / 100 * 100).toInt) ∧ (((x2 / 100) - (x2 / 100) / 100 * 100).toInt ≤ (60 : Int32).toInt) := hg8
        have s10 : (x2 - x2 / 100 * 100).toInt = (x2.toInt % 100) := kd_rem 100 kn100 (by decide) (oz389 c2 kn0)
        refine ft_go mi_k201 5 40 [(0, .ref 116), (1, .int x1), (2, .int x2), (3, .int x3)] [.int 12, .int (x2 - x2 / 100 * 100)] i a q r (by rfl) ?_
        refine ft_if mi_k201 (decide (12 < (x2 - x2 / 100 * 100))) 56 43 [(0, .ref 116), (1, .int x1), (2, .int x2), (3, .int x3)] [] (by rfl) (fun c => ?_) (fun c => ?_)
        ·
          have c11 : (12 : Int32).toInt < (x2 - x2 / 100 * 100).toInt := kd_lt c; clear c
          refine ft_go mi_k201 1 57 [(0, .ref 116), (1, .int x1), (2, .int x2), (3, .int x3)] [.int (-1)] i a q r (by rfl) ?_
          exact ft_ret mi_k201 (by rfl) (hP (-1) _ _ _ _ hG trivial)
        ·
          have c12 : (x2 - x2 / 100 * 100).toInt ≤ (12 : Int32).toInt := kd_ltF c; clear c
          refine ft_go mi_k201 2 45 [(0, .ref 116), (1, .int x1), (2, .int x2), (3, .int x3)] [.int (-1), .int x3] i a q r (by rfl) ?_
          refine ft_if mi_k201 (x3 == (-1)) 58 48 [(0, .ref 116), (1, .int x1), (2, .int x2), (3, .int x3)] [] (by rfl) (fun c => ?_) (fun c => ?_)
          ·
            have c13 : x3.toInt = ((-1) : Int32).toInt := kd_eq c; clear c
            refine ft_go mi_k201 1 59 [(0, .ref 116), (1, .int x1), (2, .int x2), (3, .int x3)] [.ref 116] i a q r (by rfl) ?_
            refine ko_callN mi_k201.1 (pc := 59) (ls := [(0, .ref 116), (1, .int x1), (2, .int x2), (3, .int x3)]) (st := [.ref 116]) (h := ks i a q r) (i := (.invokevirtual 267, 3, 171, 0, 9, 0, 412)) (mi_k201.2 _ _ (by rfl)) (ft_invS mi_pq171 (by rfl)) (cy := mi_c171) mi_pq171 rfl (kc171_116 hG.I hG.R ) (by decide) ?_
            intro ig14 ag14 qg14 rg14 kg14 hg14
            have hGg14 := kG_call hG kg14 (by decide +kernel)
            refine ft_go mi_k201 6 71 [(6, .int 0), (5, .int 0), (4, .int x1), (0, .ref 116), (1, .int x1), (2, .int x2), (3, .int x3)] [] ig14 ag14 qg14 rg14 (by rfl) ?_
            have lp15 : ∀ (nz : Nat) (i15 : Nat → Int32) (a15 : Nat → List Int32) (q15 : Nat → List Int64) (r15 : Nat → Nat) (l6_15 : Int32) (l5_15 : Int32) (l4_15 : Int32), kG w201_116_L71 ig14 ag14 qg14 rg14 i15 a15 q15 r15 → (0 : Int) ≤ l6_15.toInt → ((31 - l6_15.toInt)).toNat < nz → ko 11 (mi_h201, mi_c201) P (71, [(6, .int l6_15), (5, .int l5_15), (4, .int l4_15), (0, .ref 116), (1, .int x1), (2, .int x2), (3, .int x3)], [], (0, 0), ks i15 a15 q15 r15) := by
              intro nz
              induction nz with
              | zero =>
                intro _ _ _ _ _ _ _ _ _ hm
                exact absurd hm (Nat.not_lt_zero _)
              | succ nz ih15 =>
                intro i15 a15 q15 r15 l6_15 l5_15 l4_15 hL15 p15_0 hm15
                refine ft_go mi_k201 4 78 [(6, .int l6_15), (5, .int l5_15), (4, .int l4_15), (0, .ref 116), (1, .int x1), (2, .int x2), (3, .int x3)] [.int (x2 / 10000), .int l6_15] i15 a15 q15 r15 (by rfl) ?_
                refine ft_if mi_k201 (decide ((x2 / 10000) ≤ l6_15)) 186 81 [(6, .int l6_15), (5, .int l5_15), (4, .int l4_15), (0, .ref 116), (1, .int x1), (2, .int x2), (3, .int x3)] [] (by rfl) (fun c => ?_) (fun c => ?_)
                ·
                  have c16 : (x2 / 10000).toInt ≤ l6_15.toInt := kd_le c; clear c
                  have hG17 := kG_call hGg14 hL15 (by decide +kernel)
                  refine ft_go mi_k201 2 188 [(6, .int l6_15), (5, .int l5_15), (4, .int l4_15), (0, .ref 116), (1, .int x1), (2, .int x2), (3, .int x3)] [.int (-1), .int x3] i15 a15 q15 r15 (by rfl) ?_
                  refine ft_if mi_k201 (x3 != (-1)) 198 191 [(6, .int l6_15), (5, .int l5_15), (4, .int l4_15), (0, .ref 116), (1, .int x1), (2, .int x2), (3, .int x3)] [] (by rfl) (fun c => ?_) (fun c => ?_)
                  ·
                    have c18 : x3.toInt ≠ ((-1) : Int32).toInt := kd_ne c; clear c
                    exact (oz536 c13 c18 knm1).elim
                  ·
                    have c19 : x3.toInt = ((-1) : Int32).toInt := kd_neF c; clear c
                    refine ft_go mi_k201 3 200 [(6, .int l6_15), (5, .int l5_15), (4, .int l4_15), (0, .ref 116), (1, .int x1), (2, .int x2), (3, .int x3)] [.int (i15 7467)] i15 a15 q15 r15 (by rfl) ?_
                    exact ft_ret mi_k201 (by rfl) (hP (i15 7467) _ _ _ _ hG17 trivial)
                ·
                  have c20 : l6_15.toInt < (x2 / 10000).toInt := kd_leF c; clear c
                  have fi15_7424 : ((0 : Int) ≤ (i15 7424).toInt) ∧ ((i15 7424).toInt ≤ 8) := hL15.I.1 7424
                  have fig14_7424 : ((0 : Int) ≤ (ig14 7424).toInt) ∧ ((ig14 7424).toInt ≤ 8) := hGg14.I.1 7424
                  have fi_7424 : ((0 : Int) ≤ (i 7424).toInt) ∧ ((i 7424).toInt ≤ 8) := hG.I.1 7424
                  have efig14_7424 : (ig14 7424).toInt = (i 7424).toInt := kg14.ti 7424 rfl
                  have efi15_7424 : (i15 7424).toInt = (ig14 7424).toInt := hL15.ti 7424 rfl
                  refine ft_go mi_k201 2 85 [(6, .int l6_15), (5, .int l5_15), (4, .int l4_15), (0, .ref 116), (1, .int x1), (2, .int x2), (3, .int x3)] [.int (i15 7424)] i15 a15 q15 r15 (by rfl) ?_
                  refine ft_if mi_k201 (decide ((i15 7424) ≤ 0)) 186 88 [(6, .int l6_15), (5, .int l5_15), (4, .int l4_15), (0, .ref 116), (1, .int x1), (2, .int x2), (3, .int x3)] [] (by rfl) (fun c => ?_) (fun c => ?_)
                  ·
                    have c21 : (i15 7424).toInt ≤ (0 : Int32).toInt := kd_le c; clear c
                    have hG22 := kG_call hGg14 hL15 (by decide +kernel)
                    refine ft_go mi_k201 2 188 [(6, .int l6_15), (5, .int l5_15), (4, .int l4_15), (0, .ref 116), (1, .int x1), (2, .int x2), (3, .int x3)] [.int (-1), .int x3] i15 a15 q15 r15 (by rfl) ?_
                    refine ft_if mi_k201 (x3 != (-1)) 198 191 [(6, .int l6_15), (5, .int l5_15), (4, .int l4_15), (0, .ref 116), (1, .int x1), (2, .int x2), (3, .int x3)] [] (by rfl) (fun c => ?_) (fun c => ?_)
                    ·
                      have c23 : x3.toInt ≠ ((-1) : Int32).toInt := kd_ne c; clear c
                      exact (oz536 c13 c23 knm1).elim
                    ·
                      have c24 : x3.toInt = ((-1) : Int32).toInt := kd_neF c; clear c
                      refine ft_go mi_k201 3 200 [(6, .int l6_15), (5, .int l5_15), (4, .int l4_15), (0, .ref 116), (1, .int x1), (2, .int x2), (3, .int x3)] [.int (i15 7467)] i15 a15 q15 r15 (by rfl) ?_
                      exact ft_ret mi_k201 (by rfl) (hP (i15 7467) _ _ _ _ hG22 trivial)
                  ·
                    have c25 : (0 : Int32).toInt < (i15 7424).toInt := kd_leF c; clear c
                    refine ft_go mi_k201 2 91 [(7, .int 0), (6, .int l6_15), (5, .int l5_15), (4, .int l4_15), (0, .ref 116), (1, .int x1), (2, .int x2), (3, .int x3)] [] i15 a15 q15 r15 (by rfl) ?_
                    have lp26 : ∀ (nz : Nat) (i26 : Nat → Int32) (a26 : Nat → List Int32) (q26 : Nat → List Int64) (r26 : Nat → Nat) (l7_26 : Int32) (l4_26 : Int32), kG w201_116_L91 i15 a15 q15 r15 i26 a26 q26 r26 → (0 : Int) ≤ l7_26.toInt → ((100 - l7_26.toInt)).toNat < nz → ko 11 (mi_h201, mi_c201) P (91, [(7, .int l7_26), (6, .int l6_15), (5, .int l5_15), (4, .int l4_26), (0, .ref 116), (1, .int x1), (2, .int x2), (3, .int x3)], [], (0, 0), ks i26 a26 q26 r26) := by
                      intro nz
                      induction nz with
                      | zero =>
                        intro _ _ _ _ _ _ _ _ hm
                        exact absurd hm (Nat.not_lt_zero _)
                      | succ nz ih26 =>
                        intro i26 a26 q26 r26 l7_26 l4_26 hL26 p26_0 hm26
                        refine ft_go mi_k201 6 100 [(7, .int l7_26), (6, .int l6_15), (5, .int l5_15), (4, .int l4_26), (0, .ref 116), (1, .int x1), (2, .int x2), (3, .int x3)] [.int ((x2 / 100) - (x2 / 100) / 100 * 100), .int l7_26] i26 a26 q26 r26 (by rfl) ?_
                        refine ft_if mi_k201 (decide (((x2 / 100) - (x2 / 100) / 100 * 100) ≤ l7_26)) 155 103 [(7, .int l7_26), (6, .int l6_15), (5, .int l5_15), (4, .int l4_26), (0, .ref 116), (1, .int x1), (2, .int x2), (3, .int x3)] [] (by rfl) (fun c => ?_) (fun c => ?_)
                        ·
                          have c27 : ((x2 / 100) - (x2 / 100) / 100 * 100).toInt ≤ l7_26.toInt := kd_le c; clear c
                          have hG28 := kG_call hL15 hL26 (by decide +kernel)
                          refine ft_go mi_k201 2 157 [(7, .int l7_26), (6, .int l6_15), (5, .int l5_15), (4, .int l4_26), (0, .ref 116), (1, .int x1), (2, .int x2), (3, .int x3)] [.int (-1), .int x3] i26 a26 q26 r26 (by rfl) ?_
                          refine ft_if mi_k201 (x3 == (-1)) 171 160 [(7, .int l7_26), (6, .int l6_15), (5, .int l5_15), (4, .int l4_26), (0, .ref 116), (1, .int x1), (2, .int x2), (3, .int x3)] [] (by rfl) (fun c => ?_) (fun c => ?_)
                          ·
                            have c29 : x3.toInt = ((-1) : Int32).toInt := kd_eq c; clear c
                            refine ft_go mi_k201 4 177 [(7, .int l7_26), (6, .int l6_15), (5, .int l5_15), (4, .int l4_26), (0, .ref 116), (1, .int x1), (2, .int x2), (3, .int x3)] [.int 0, .ref 139, .ref 116] i26 a26 q26 r26 (by rfl) ?_
                            refine ko_callN mi_k201.1 (pc := 177) (ls := [(7, .int l7_26), (6, .int l6_15), (5, .int l5_15), (4, .int l4_26), (0, .ref 116), (1, .int x1), (2, .int x2), (3, .int x3)]) (st := [.int 0, .ref 139, .ref 116]) (h := ks i26 a26 q26 r26) (i := (.invokevirtual 273, 3, 169, 0, 9, 0, 423)) (mi_k201.2 _ _ (by rfl)) (ft_invS mi_pq169 (by rfl)) (cy := mi_c169) mi_pq169 rfl (kc169_116_139 hG28.I hG28.R 0 (oz236 kn0)) (by decide) ?_
                            intro ig30 ag30 qg30 rg30 kg30 hg30
                            have hGg30 := kG_call hG28 kg30 (by decide +kernel)
                            have s31 : (l6_15 + 1).toInt = l6_15.toInt + (1 : Int32).toInt := kd_add (oz12 p15_0 kn1) (oz537 c20 z5.2 kn30 kn1)
                            refine ft_go mi_k201 2 71 [(6, .int (l6_15 + 1)), (7, .int l7_26), (5, .int l5_15), (4, .int l4_26), (0, .ref 116), (1, .int x1), (2, .int x2), (3, .int x3)] [] ig30 ag30 qg30 rg30 (by rfl) ?_
                            refine ko_perm [(6, .int (l6_15 + 1)), (5, .int l5_15), (4, .int l4_26), (0, .ref 116), (1, .int x1), (2, .int x2), (3, .int x3)] (List.forall_mem_cons.mpr ⟨(List.Mem.head _), (List.forall_mem_cons.mpr ⟨(List.Mem.tail _ (List.Mem.tail _ (List.Mem.head _))), (List.forall_mem_cons.mpr ⟨(List.Mem.tail _ (List.Mem.tail _ (List.Mem.tail _ (List.Mem.head _)))), (List.forall_mem_cons.mpr ⟨(List.Mem.tail _ (List.Mem.tail _ (List.Mem.tail _ (List.Mem.tail _ (List.Mem.head _))))), (List.forall_mem_cons.mpr ⟨(List.Mem.tail _ (List.Mem.tail _ (List.Mem.tail _ (List.Mem.tail _ (List.Mem.tail _ (List.Mem.head _)))))), (List.forall_mem_cons.mpr ⟨(List.Mem.tail _ (List.Mem.tail _ (List.Mem.tail _ (List.Mem.tail _ (List.Mem.tail _ (List.Mem.tail _ (List.Mem.head _))))))), (List.forall_mem_cons.mpr ⟨(List.Mem.tail _ (List.Mem.tail _ (List.Mem.tail _ (List.Mem.tail _ (List.Mem.tail _ (List.Mem.tail _ (List.Mem.tail _ (List.Mem.head _)))))))), (fun _ h => absurd h List.not_mem_nil)⟩)⟩)⟩)⟩)⟩)⟩)⟩) ?_
                            exact ih15 _ _ _ _ _ _ _ hGg30 (oz14 p15_0 s31 kn1) (kj_meas (oz234 s31 kn1) (oz538 c20 z5.2 kn30) hm15)
                          ·
                            have c32 : x3.toInt ≠ ((-1) : Int32).toInt := kd_eqF c; clear c
                            exact (oz536 c13 c32 knm1).elim
                        ·
                          have c33 : l7_26.toInt < ((x2 / 100) - (x2 / 100) / 100 * 100).toInt := kd_leF c; clear c
                          have b34 : ((-2147483648 : Int) ≤ l4_26.toInt) ∧ (l4_26.toInt ≤ 2147483647) := kd_bd l4_26
                          have b35 : ((-2147483648 : Int) ≤ (l4_26 * 1103515245).toInt) ∧ ((l4_26 * 1103515245).toInt ≤ 2147483647) := kd_bd (l4_26 * 1103515245)
                          have s36 : (0 : Int) ≤ ((((l4_26 * 1103515245) + 12345).toUInt32 >>> ((16 : Int32).toUInt32 &&& Int32.toUInt32 31)).toInt32).toInt := kd_ushr 16 (by decide) (by decide) (by decide)
                          have s37 : (((((l4_26 * 1103515245) + 12345).toUInt32 >>> ((16 : Int32).toUInt32 &&& Int32.toUInt32 31)).toInt32) - ((((l4_26 * 1103515245) + 12345).toUInt32 >>> ((16 : Int32).toUInt32 &&& Int32.toUInt32 31)).toInt32) / 12 * 12).toInt = (((((l4_26 * 1103515245) + 12345).toUInt32 >>> ((16 : Int32).toUInt32 &&& Int32.toUInt32 31)).toInt32).toInt % 12) := kd_rem 12 kn12 (by decide) (oz3 s36)
                          refine ft_go mi_k201 14 127 [(4, .int ((l4_26 * 1103515245) + 12345)), (7, .int l7_26), (6, .int l6_15), (5, .int l5_15), (0, .ref 116), (1, .int x1), (2, .int x2), (3, .int x3)] [.int (x2 - x2 / 100 * 100), .int (((((l4_26 * 1103515245) + 12345).toUInt32 >>> ((16 : Int32).toUInt32 &&& Int32.toUInt32 31)).toInt32) - ((((l4_26 * 1103515245) + 12345).toUInt32 >>> ((16 : Int32).toUInt32 &&& Int32.toUInt32 31)).toInt32) / 12 * 12)] i26 a26 q26 r26 (by rfl) ?_
                          refine ft_if mi_k201 (decide ((x2 - x2 / 100 * 100) ≤ (((((l4_26 * 1103515245) + 12345).toUInt32 >>> ((16 : Int32).toUInt32 &&& Int32.toUInt32 31)).toInt32) - ((((l4_26 * 1103515245) + 12345).toUInt32 >>> ((16 : Int32).toUInt32 &&& Int32.toUInt32 31)).toInt32) / 12 * 12))) 134 130 [(4, .int ((l4_26 * 1103515245) + 12345)), (7, .int l7_26), (6, .int l6_15), (5, .int l5_15), (0, .ref 116), (1, .int x1), (2, .int x2), (3, .int x3)] [] (by rfl) (fun c => ?_) (fun c => ?_)
                          ·
                            have c38 : (x2 - x2 / 100 * 100).toInt ≤ (((((l4_26 * 1103515245) + 12345).toUInt32 >>> ((16 : Int32).toUInt32 &&& Int32.toUInt32 31)).toInt32) - ((((l4_26 * 1103515245) + 12345).toUInt32 >>> ((16 : Int32).toUInt32 &&& Int32.toUInt32 31)).toInt32) / 12 * 12).toInt := kd_le c; clear c
                            have s39 : (0 : Int) ≤ ((((l4_26 * 1103515245) + 12345).toUInt32 >>> ((8 : Int32).toUInt32 &&& Int32.toUInt32 31)).toInt32).toInt := kd_ushr 8 (by decide) (by decide) (by decide)
                            have fi26_7424 : ((0 : Int) ≤ (i26 7424).toInt) ∧ ((i26 7424).toInt ≤ 8) := hL26.I.1 7424
                            have efi26_7424 : (i26 7424).toInt = (i15 7424).toInt := hL26.ti 7424 rfl
                            refine ft_go mi_k201 6 144 [(4, .int ((l4_26 * 1103515245) + 12345)), (7, .int l7_26), (6, .int l6_15), (5, .int l5_15), (0, .ref 116), (1, .int x1), (2, .int x2), (3, .int x3)] [.int (i26 7424), .int ((((l4_26 * 1103515245) + 12345).toUInt32 >>> ((8 : Int32).toUInt32 &&& Int32.toUInt32 31)).toInt32), .ref 116] i26 a26 q26 r26 (by rfl) ?_
                            have s40 : ((0 : Int) ≤ (((((l4_26 * 1103515245) + 12345).toUInt32 >>> ((8 : Int32).toUInt32 &&& Int32.toUInt32 31)).toInt32) - ((((l4_26 * 1103515245) + 12345).toUInt32 >>> ((8 : Int32).toUInt32 &&& Int32.toUInt32 31)).toInt32) / (i26 7424) * (i26 7424)).toInt) ∧ ((((((l4_26 * 1103515245) + 12345).toUInt32 >>> ((8 : Int32).toUInt32 &&& Int32.toUInt32 31)).toInt32) - ((((l4_26 * 1103515245) + 12345).toUInt32 >>> ((8 : Int32).toUInt32 &&& Int32.toUInt32 31)).toInt32) / (i26 7424) * (i26 7424)).toInt < (i26 7424).toInt) := kd_remv (oz540 c25 efi26_7424 kn0) (oz3 s39)
                            refine ko_irem mi_k201.1 (ax := (0, 0, 0, 0, 0)) (mi_k201.2 _ _ (by rfl)) (oz539 c25 efi26_7424 kn0) ?_
                            have hG41 := kG_call hL15 hL26 (by decide +kernel)
                            have hG42 := kG_call hGg14 hG41 (by decide +kernel)
                            refine ko_callI mi_k201.1 (pc := 145) (ls := [(4, .int ((l4_26 * 1103515245) + 12345)), (7, .int l7_26), (6, .int l6_15), (5, .int l5_15), (0, .ref 116), (1, .int x1), (2, .int x2), (3, .int x3)]) (st := [.int (((((l4_26 * 1103515245) + 12345).toUInt32 >>> ((8 : Int32).toUInt32 &&& Int32.toUInt32 31)).toInt32) - ((((l4_26 * 1103515245) + 12345).toUInt32 >>> ((8 : Int32).toUInt32 &&& Int32.toUInt32 31)).toInt32) / (i26 7424) * (i26 7424)), .ref 116]) (h := ks i26 a26 q26 r26) (i := (.invokevirtual 260, 3, 166, 0, 9, 0, 415)) (mi_k201.2 _ _ (by rfl)) (ft_invS mi_pq166 (by rfl)) (cy := mi_c166) mi_pq166 rfl (kc166_116 hL26.I hL26.R (((((l4_26 * 1103515245) + 12345).toUInt32 >>> ((8 : Int32).toUInt32 &&& Int32.toUInt32 31)).toInt32) - ((((l4_26 * 1103515245) + 12345).toUInt32 >>> ((8 : Int32).toUInt32 &&& Int32.toUInt32 31)).toInt32) / (i26 7424) * (i26 7424)) (oz423 fi26_7424.2 s40.1 s40.2) (kCode_of (i1 := i26) hE_code (hG42.fi 7432 rfl) (hG42.fa 120 rfl) (hG42.fa 121 rfl) (hG42.fa 122 rfl) (hG42.fa 123 rfl))) (by decide) ?_
                            intro vg43 ig43 ag43 qg43 rg43 kg43 hg43
                            have hGg43 := kG_call hL26 kg43 (by decide +kernel)
                            rcases hg43 with ⟨eg43, hg43⟩ | ⟨eg43, hg43⟩
                            ·
                              subst eg43
                              have s44 : (l7_26 + 1).toInt = l7_26.toInt + (1 : Int32).toInt := kd_add (oz12 p26_0 kn1) (oz541 c33 s7 kn1)
                              refine ft_go mi_k201 3 91 [(7, .int (l7_26 + 1)), (4, .int ((l4_26 * 1103515245) + 12345)), (6, .int l6_15), (5, .int l5_15), (0, .ref 116), (1, .int x1), (2, .int x2), (3, .int x3)] [] ig43 ag43 qg43 rg43 (by rfl) ?_
                              refine ko_perm [(7, .int (l7_26 + 1)), (6, .int l6_15), (5, .int l5_15), (4, .int ((l4_26 * 1103515245) + 12345)), (0, .ref 116), (1, .int x1), (2, .int x2), (3, .int x3)] (List.forall_mem_cons.mpr ⟨(List.Mem.head _), (List.forall_mem_cons.mpr ⟨(List.Mem.tail _ (List.Mem.tail _ (List.Mem.head _))), (List.forall_mem_cons.mpr ⟨(List.Mem.tail _ (List.Mem.tail _ (List.Mem.tail _ (List.Mem.head _)))), (List.forall_mem_cons.mpr ⟨(List.Mem.tail _ (List.Mem.head _)), (List.forall_mem_cons.mpr ⟨(List.Mem.tail _ (List.Mem.tail _ (List.Mem.tail _ (List.Mem.tail _ (List.Mem.head _))))), (List.forall_mem_cons.mpr ⟨(List.Mem.tail _ (List.Mem.tail _ (List.Mem.tail _ (List.Mem.tail _ (List.Mem.tail _ (List.Mem.head _)))))), (List.forall_mem_cons.mpr ⟨(List.Mem.tail _ (List.Mem.tail _ (List.Mem.tail _ (List.Mem.tail _ (List.Mem.tail _ (List.Mem.tail _ (List.Mem.head _))))))), (List.forall_mem_cons.mpr ⟨(List.Mem.tail _ (List.Mem.tail _ (List.Mem.tail _ (List.Mem.tail _ (List.Mem.tail _ (List.Mem.tail _ (List.Mem.tail _ (List.Mem.head _)))))))), (fun _ h => absurd h List.not_mem_nil)⟩)⟩)⟩)⟩)⟩)⟩)⟩)⟩) ?_
                              exact ih26 _ _ _ _ _ _ hGg43 (oz14 p26_0 s44 kn1) (kj_meas (oz542 s44 kn1) (oz543 c33 s7) hm26)
                            ·
                              subst eg43
                              have s45 : (l7_26 + 1).toInt = l7_26.toInt + (1 : Int32).toInt := kd_add (oz12 p26_0 kn1) (oz541 c33 s7 kn1)
                              refine ft_go mi_k201 3 91 [(7, .int (l7_26 + 1)), (4, .int ((l4_26 * 1103515245) + 12345)), (6, .int l6_15), (5, .int l5_15), (0, .ref 116), (1, .int x1), (2, .int x2), (3, .int x3)] [] ig43 ag43 qg43 rg43 (by rfl) ?_
                              refine ko_perm [(7, .int (l7_26 + 1)), (6, .int l6_15), (5, .int l5_15), (4, .int ((l4_26 * 1103515245) + 12345)), (0, .ref 116), (1, .int x1), (2, .int x2), (3, .int x3)] (List.forall_mem_cons.mpr ⟨(List.Mem.head _), (List.forall_mem_cons.mpr ⟨(List.Mem.tail _ (List.Mem.tail _ (List.Mem.head _))), (List.forall_mem_cons.mpr ⟨(List.Mem.tail _ (List.Mem.tail _ (List.Mem.tail _ (List.Mem.head _)))), (List.forall_mem_cons.mpr ⟨(List.Mem.tail _ (List.Mem.head _)), (List.forall_mem_cons.mpr ⟨(List.Mem.tail _ (List.Mem.tail _ (List.Mem.tail _ (List.Mem.tail _ (List.Mem.head _))))), (List.forall_mem_cons.mpr ⟨(List.Mem.tail _ (List.Mem.tail _ (List.Mem.tail _ (List.Mem.tail _ (List.Mem.tail _ (List.Mem.head _)))))), (List.forall_mem_cons.mpr ⟨(List.Mem.tail _ (List.Mem.tail _ (List.Mem.tail _ (List.Mem.tail _ (List.Mem.tail _ (List.Mem.tail _ (List.Mem.head _))))))), (List.forall_mem_cons.mpr ⟨(List.Mem.tail _ (List.Mem.tail _ (List.Mem.tail _ (List.Mem.tail _ (List.Mem.tail _ (List.Mem.tail _ (List.Mem.tail _ (List.Mem.head _)))))))), (fun _ h => absurd h List.not_mem_nil)⟩)⟩)⟩)⟩)⟩)⟩)⟩)⟩) ?_
                              exact ih26 _ _ _ _ _ _ hGg43 (oz14 p26_0 s45 kn1) (kj_meas (oz542 s45 kn1) (oz543 c33 s7) hm26)
                          ·
                            have c46 : (((((l4_26 * 1103515245) + 12345).toUInt32 >>> ((16 : Int32).toUInt32 &&& Int32.toUInt32 31)).toInt32) - ((((l4_26 * 1103515245) + 12345).toUInt32 >>> ((16 : Int32).toUInt32 &&& Int32.toUInt32 31)).toInt32) / 12 * 12).toInt < (x2 - x2 / 100 * 100).toInt := kd_leF c; clear c
                            refine ft_go mi_k201 1 131 [(4, .int ((l4_26 * 1103515245) + 12345)), (7, .int l7_26), (6, .int l6_15), (5, .int l5_15), (0, .ref 116), (1, .int x1), (2, .int x2), (3, .int x3)] [.ref 116] i26 a26 q26 r26 (by rfl) ?_
                            refine ko_callN mi_k201.1 (pc := 131) (ls := [(4, .int ((l4_26 * 1103515245) + 12345)), (7, .int l7_26), (6, .int l6_15), (5, .int l5_15), (0, .ref 116), (1, .int x1), (2, .int x2), (3, .int x3)]) (st := [.ref 116]) (h := ks i26 a26 q26 r26) (i := (.invokevirtual 282, 3, 167, 0, 9, 0, 426)) (mi_k201.2 _ _ (by rfl)) (ft_invS mi_pq167 (by rfl)) (cy := mi_c167) mi_pq167 rfl (kc167_116 hL26.I hL26.R ) (by decide) ?_
                            intro ig47 ag47 qg47 rg47 kg47 hg47
                            have hGg47 := kG_call hL26 kg47 (by decide +kernel)
                            have s48 : (0 : Int) ≤ ((((l4_26 * 1103515245) + 12345).toUInt32 >>> ((8 : Int32).toUInt32 &&& Int32.toUInt32 31)).toInt32).toInt := kd_ushr 8 (by decide) (by decide) (by decide)
                            have fig47_7424 : ((0 : Int) ≤ (ig47 7424).toInt) ∧ ((ig47 7424).toInt ≤ 8) := hGg47.I.1 7424
                            have fi26_7424 : ((0 : Int) ≤ (i26 7424).toInt) ∧ ((i26 7424).toInt ≤ 8) := hL26.I.1 7424
                            have efi26_7424 : (i26 7424).toInt = (i15 7424).toInt := hL26.ti 7424 rfl
                            have efig47_7424 : (ig47 7424).toInt = (i26 7424).toInt := kg47.ti 7424 rfl
                            refine ft_go mi_k201 6 144 [(4, .int ((l4_26 * 1103515245) + 12345)), (7, .int l7_26), (6, .int l6_15), (5, .int l5_15), (0, .ref 116), (1, .int x1), (2, .int x2), (3, .int x3)] [.int (ig47 7424), .int ((((l4_26 * 1103515245) + 12345).toUInt32 >>> ((8 : Int32).toUInt32 &&& Int32.toUInt32 31)).toInt32), .ref 116] ig47 ag47 qg47 rg47 (by rfl) ?_
                            have s49 : ((0 : Int) ≤ (((((l4_26 * 1103515245) + 12345).toUInt32 >>> ((8 : Int32).toUInt32 &&& Int32.toUInt32 31)).toInt32) - ((((l4_26 * 1103515245) + 12345).toUInt32 >>> ((8 : Int32).toUInt32 &&& Int32.toUInt32 31)).toInt32) / (ig47 7424) * (ig47 7424)).toInt) ∧ ((((((l4_26 * 1103515245) + 12345).toUInt32 >>> ((8 : Int32).toUInt32 &&& Int32.toUInt32 31)).toInt32) - ((((l4_26 * 1103515245) + 12345).toUInt32 >>> ((8 : Int32).toUInt32 &&& Int32.toUInt32 31)).toInt32) / (ig47 7424) * (ig47 7424)).toInt < (ig47 7424).toInt) := kd_remv (oz545 c25 efi26_7424 efig47_7424 kn0) (oz3 s48)
                            refine ko_irem mi_k201.1 (ax := (0, 0, 0, 0, 0)) (mi_k201.2 _ _ (by rfl)) (oz544 c25 efi26_7424 efig47_7424 kn0) ?_
                            have hG50 := kG_call hL15 hGg47 (by decide +kernel)
                            have hG51 := kG_call hGg14 hG50 (by decide +kernel)
                            refine ko_callI mi_k201.1 (pc := 145) (ls := [(4, .int ((l4_26 * 1103515245) + 12345)), (7, .int l7_26), (6, .int l6_15), (5, .int l5_15), (0, .ref 116), (1, .int x1), (2, .int x2), (3, .int x3)]) (st := [.int (((((l4_26 * 1103515245) + 12345).toUInt32 >>> ((8 : Int32).toUInt32 &&& Int32.toUInt32 31)).toInt32) - ((((l4_26 * 1103515245) + 12345).toUInt32 >>> ((8 : Int32).toUInt32 &&& Int32.toUInt32 31)).toInt32) / (ig47 7424) * (ig47 7424)), .ref 116]) (h := ks ig47 ag47 qg47 rg47) (i := (.invokevirtual 260, 3, 166, 0, 9, 0, 415)) (mi_k201.2 _ _ (by rfl)) (ft_invS mi_pq166 (by rfl)) (cy := mi_c166) mi_pq166 rfl (kc166_116 hGg47.I hGg47.R (((((l4_26 * 1103515245) + 12345).toUInt32 >>> ((8 : Int32).toUInt32 &&& Int32.toUInt32 31)).toInt32) - ((((l4_26 * 1103515245) + 12345).toUInt32 >>> ((8 : Int32).toUInt32 &&& Int32.toUInt32 31)).toInt32) / (ig47 7424) * (ig47 7424)) (oz423 fig47_7424.2 s49.1 s49.2) (kCode_of (i1 := ig47) hE_code (hG51.fi 7432 rfl) (hG51.fa 120 rfl) (hG51.fa 121 rfl) (hG51.fa 122 rfl) (hG51.fa 123 rfl))) (by decide) ?_
                            intro vg52 ig52 ag52 qg52 rg52 kg52 hg52
                            have hGg52 := kG_call hGg47 kg52 (by decide +kernel)
                            rcases hg52 with ⟨eg52, hg52⟩ | ⟨eg52, hg52⟩
                            ·
                              subst eg52
                              have s53 : (l7_26 + 1).toInt = l7_26.toInt + (1 : Int32).toInt := kd_add (oz12 p26_0 kn1) (oz541 c33 s7 kn1)
                              refine ft_go mi_k201 3 91 [(7, .int (l7_26 + 1)), (4, .int ((l4_26 * 1103515245) + 12345)), (6, .int l6_15), (5, .int l5_15), (0, .ref 116), (1, .int x1), (2, .int x2), (3, .int x3)] [] ig52 ag52 qg52 rg52 (by rfl) ?_
                              refine ko_perm [(7, .int (l7_26 + 1)), (6, .int l6_15), (5, .int l5_15), (4, .int ((l4_26 * 1103515245) + 12345)), (0, .ref 116), (1, .int x1), (2, .int x2), (3, .int x3)] (List.forall_mem_cons.mpr ⟨(List.Mem.head _), (List.forall_mem_cons.mpr ⟨(List.Mem.tail _ (List.Mem.tail _ (List.Mem.head _))), (List.forall_mem_cons.mpr ⟨(List.Mem.tail _ (List.Mem.tail _ (List.Mem.tail _ (List.Mem.head _)))), (List.forall_mem_cons.mpr ⟨(List.Mem.tail _ (List.Mem.head _)), (List.forall_mem_cons.mpr ⟨(List.Mem.tail _ (List.Mem.tail _ (List.Mem.tail _ (List.Mem.tail _ (List.Mem.head _))))), (List.forall_mem_cons.mpr ⟨(List.Mem.tail _ (List.Mem.tail _ (List.Mem.tail _ (List.Mem.tail _ (List.Mem.tail _ (List.Mem.head _)))))), (List.forall_mem_cons.mpr ⟨(List.Mem.tail _ (List.Mem.tail _ (List.Mem.tail _ (List.Mem.tail _ (List.Mem.tail _ (List.Mem.tail _ (List.Mem.head _))))))), (List.forall_mem_cons.mpr ⟨(List.Mem.tail _ (List.Mem.tail _ (List.Mem.tail _ (List.Mem.tail _ (List.Mem.tail _ (List.Mem.tail _ (List.Mem.tail _ (List.Mem.head _)))))))), (fun _ h => absurd h List.not_mem_nil)⟩)⟩)⟩)⟩)⟩)⟩)⟩)⟩) ?_
                              exact ih26 _ _ _ _ _ _ hGg52 (oz14 p26_0 s53 kn1) (kj_meas (oz542 s53 kn1) (oz543 c33 s7) hm26)
                            ·
                              subst eg52
                              have s54 : (l7_26 + 1).toInt = l7_26.toInt + (1 : Int32).toInt := kd_add (oz12 p26_0 kn1) (oz541 c33 s7 kn1)
                              refine ft_go mi_k201 3 91 [(7, .int (l7_26 + 1)), (4, .int ((l4_26 * 1103515245) + 12345)), (6, .int l6_15), (5, .int l5_15), (0, .ref 116), (1, .int x1), (2, .int x2), (3, .int x3)] [] ig52 ag52 qg52 rg52 (by rfl) ?_
                              refine ko_perm [(7, .int (l7_26 + 1)), (6, .int l6_15), (5, .int l5_15), (4, .int ((l4_26 * 1103515245) + 12345)), (0, .ref 116), (1, .int x1), (2, .int x2), (3, .int x3)] (List.forall_mem_cons.mpr ⟨(List.Mem.head _), (List.forall_mem_cons.mpr ⟨(List.Mem.tail _ (List.Mem.tail _ (List.Mem.head _))), (List.forall_mem_cons.mpr ⟨(List.Mem.tail _ (List.Mem.tail _ (List.Mem.tail _ (List.Mem.head _)))), (List.forall_mem_cons.mpr ⟨(List.Mem.tail _ (List.Mem.head _)), (List.forall_mem_cons.mpr ⟨(List.Mem.tail _ (List.Mem.tail _ (List.Mem.tail _ (List.Mem.tail _ (List.Mem.head _))))), (List.forall_mem_cons.mpr ⟨(List.Mem.tail _ (List.Mem.tail _ (List.Mem.tail _ (List.Mem.tail _ (List.Mem.tail _ (List.Mem.head _)))))), (List.forall_mem_cons.mpr ⟨(List.Mem.tail _ (List.Mem.tail _ (List.Mem.tail _ (List.Mem.tail _ (List.Mem.tail _ (List.Mem.tail _ (List.Mem.head _))))))), (List.forall_mem_cons.mpr ⟨(List.Mem.tail _ (List.Mem.tail _ (List.Mem.tail _ (List.Mem.tail _ (List.Mem.tail _ (List.Mem.tail _ (List.Mem.tail _ (List.Mem.head _)))))))), (fun _ h => absurd h List.not_mem_nil)⟩)⟩)⟩)⟩)⟩)⟩)⟩)⟩) ?_
                              exact ih26 _ _ _ _ _ _ hGg52 (oz14 p26_0 s54 kn1) (kj_meas (oz542 s54 kn1) (oz543 c33 s7) hm26)
                    exact lp26 _ _ _ _ _ _ _ (kG_self _ hL15.I hL15.R) (oz46 kn0) (Nat.lt_succ_self _)
            exact lp15 _ _ _ _ _ _ _ _ (kG_self _ hGg14.I hGg14.R) (oz46 kn0) (Nat.lt_succ_self _)
          ·
            have c55 : x3.toInt ≠ ((-1) : Int32).toInt := kd_eqF c; clear c
            refine ft_go mi_k201 2 50 [(0, .ref 116), (1, .int x1), (2, .int x2), (3, .int x3)] [.int x3, .ref 116] i a q r (by rfl) ?_
            refine ko_callPI mi_k201.1 (pc := 50) (ls := [(0, .ref 116), (1, .int x1), (2, .int x2), (3, .int x3)]) (st := [.int x3, .ref 116]) (h := ks i a q r) (i := (.invokevirtual 137, 3, 132, 0, 9, 0, 387)) (mi_k201.2 _ _ (by rfl)) (ft_invS mi_pq132 (by rfl)) (cy := mi_c132) mi_pq132 rfl (kc132_116 hG.I hG.R x3) (by decide) ?_
            intro vg56 hg56
            rcases hg56 with ⟨eg56, hg56⟩ | ⟨eg56, hg56⟩
            ·
              subst eg56
              have fi_7424 : ((0 : Int) ≤ (i 7424).toInt) ∧ ((i 7424).toInt ≤ 8) := hG.I.1 7424
              have z57 : ((0 : Int) ≤ x3.toInt) ∧ (x3.toInt < (i 7424).toInt) := hg56
              refine ft_go mi_k201 2 59 [(0, .ref 116), (1, .int x1), (2, .int x2), (3, .int x3)] [.ref 116] i a q r (by rfl) ?_
              refine ko_callN mi_k201.1 (pc := 59) (ls := [(0, .ref 116), (1, .int x1), (2, .int x2), (3, .int x3)]) (st := [.ref 116]) (h := ks i a q r) (i := (.invokevirtual 267, 3, 171, 0, 9, 0, 412)) (mi_k201.2 _ _ (by rfl)) (ft_invS mi_pq171 (by rfl)) (cy := mi_c171) mi_pq171 rfl (kc171_116 hG.I hG.R ) (by decide) ?_
              intro ig58 ag58 qg58 rg58 kg58 hg58
              have hGg58 := kG_call hG kg58 (by decide +kernel)
              refine ft_go mi_k201 6 71 [(6, .int 0), (5, .int 0), (4, .int x1), (0, .ref 116), (1, .int x1), (2, .int x2), (3, .int x3)] [] ig58 ag58 qg58 rg58 (by rfl) ?_
              have lp59 : ∀ (nz : Nat) (i59 : Nat → Int32) (a59 : Nat → List Int32) (q59 : Nat → List Int64) (r59 : Nat → Nat) (l6_59 : Int32) (l5_59 : Int32) (l4_59 : Int32), kG w201_116_L71 ig58 ag58 qg58 rg58 i59 a59 q59 r59 → (0 : Int) ≤ l6_59.toInt → ((31 - l6_59.toInt)).toNat < nz → ko 11 (mi_h201, mi_c201) P (71, [(6, .int l6_59), (5, .int l5_59), (4, .int l4_59), (0, .ref 116), (1, .int x1), (2, .int x2), (3, .int x3)], [], (0, 0), ks i59 a59 q59 r59) := by
                intro nz
                induction nz with
                | zero =>
                  intro _ _ _ _ _ _ _ _ _ hm
                  exact absurd hm (Nat.not_lt_zero _)
                | succ nz ih59 =>
                  intro i59 a59 q59 r59 l6_59 l5_59 l4_59 hL59 p59_0 hm59
                  refine ft_go mi_k201 4 78 [(6, .int l6_59), (5, .int l5_59), (4, .int l4_59), (0, .ref 116), (1, .int x1), (2, .int x2), (3, .int x3)] [.int (x2 / 10000), .int l6_59] i59 a59 q59 r59 (by rfl) ?_
                  refine ft_if mi_k201 (decide ((x2 / 10000) ≤ l6_59)) 186 81 [(6, .int l6_59), (5, .int l5_59), (4, .int l4_59), (0, .ref 116), (1, .int x1), (2, .int x2), (3, .int x3)] [] (by rfl) (fun c => ?_) (fun c => ?_)
                  ·
                    have c60 : (x2 / 10000).toInt ≤ l6_59.toInt := kd_le c; clear c
                    have hG61 := kG_call hGg58 hL59 (by decide +kernel)
                    refine ft_go mi_k201 2 188 [(6, .int l6_59), (5, .int l5_59), (4, .int l4_59), (0, .ref 116), (1, .int x1), (2, .int x2), (3, .int x3)] [.int (-1), .int x3] i59 a59 q59 r59 (by rfl) ?_
                    refine ft_if mi_k201 (x3 != (-1)) 198 191 [(6, .int l6_59), (5, .int l5_59), (4, .int l4_59), (0, .ref 116), (1, .int x1), (2, .int x2), (3, .int x3)] [] (by rfl) (fun c => ?_) (fun c => ?_)
                    ·
                      have c62 : x3.toInt ≠ ((-1) : Int32).toInt := kd_ne c; clear c
                      refine ft_go mi_k201 1 200 [(6, .int l6_59), (5, .int l5_59), (4, .int l4_59), (0, .ref 116), (1, .int x1), (2, .int x2), (3, .int x3)] [.int l5_59] i59 a59 q59 r59 (by rfl) ?_
                      exact ft_ret mi_k201 (by rfl) (hP l5_59 _ _ _ _ hG61 trivial)
                    ·
                      have c63 : x3.toInt = ((-1) : Int32).toInt := kd_neF c; clear c
                      exact (oz405 c63 z57.1 knm1).elim
                  ·
                    have c64 : l6_59.toInt < (x2 / 10000).toInt := kd_leF c; clear c
                    have fi59_7424 : ((0 : Int) ≤ (i59 7424).toInt) ∧ ((i59 7424).toInt ≤ 8) := hL59.I.1 7424
                    have fig58_7424 : ((0 : Int) ≤ (ig58 7424).toInt) ∧ ((ig58 7424).toInt ≤ 8) := hGg58.I.1 7424
                    have efig58_7424 : (ig58 7424).toInt = (i 7424).toInt := kg58.ti 7424 rfl
                    have efi59_7424 : (i59 7424).toInt = (ig58 7424).toInt := hL59.ti 7424 rfl
                    refine ft_go mi_k201 2 85 [(6, .int l6_59), (5, .int l5_59), (4, .int l4_59), (0, .ref 116), (1, .int x1), (2, .int x2), (3, .int x3)] [.int (i59 7424)] i59 a59 q59 r59 (by rfl) ?_
                    refine ft_if mi_k201 (decide ((i59 7424) ≤ 0)) 186 88 [(6, .int l6_59), (5, .int l5_59), (4, .int l4_59), (0, .ref 116), (1, .int x1), (2, .int x2), (3, .int x3)] [] (by rfl) (fun c => ?_) (fun c => ?_)
                    ·
                      have c65 : (i59 7424).toInt ≤ (0 : Int32).toInt := kd_le c; clear c
                      exact (oz546 c65 efi59_7424 efig58_7424 z57.1 z57.2 kn0).elim
                    ·
                      have c66 : (0 : Int32).toInt < (i59 7424).toInt := kd_leF c; clear c
                      refine ft_go mi_k201 2 91 [(7, .int 0), (6, .int l6_59), (5, .int l5_59), (4, .int l4_59), (0, .ref 116), (1, .int x1), (2, .int x2), (3, .int x3)] [] i59 a59 q59 r59 (by rfl) ?_
                      have lp67 : ∀ (nz : Nat) (i67 : Nat → Int32) (a67 : Nat → List Int32) (q67 : Nat → List Int64) (r67 : Nat → Nat) (l7_67 : Int32) (l4_67 : Int32), kG w201_116_L91 i59 a59 q59 r59 i67 a67 q67 r67 → (0 : Int) ≤ l7_67.toInt → ((100 - l7_67.toInt)).toNat < nz → ko 11 (mi_h201, mi_c201) P (91, [(7, .int l7_67), (6, .int l6_59), (5, .int l5_59), (4, .int l4_67), (0, .ref 116), (1, .int x1), (2, .int x2), (3, .int x3)], [], (0, 0), ks i67 a67 q67 r67) := by
                        intro nz
                        induction nz with
                        | zero =>
                          intro _ _ _ _ _ _ _ _ hm
                          exact absurd hm (Nat.not_lt_zero _)
                        | succ nz ih67 =>
                          intro i67 a67 q67 r67 l7_67 l4_67 hL67 p67_0 hm67
                          refine ft_go mi_k201 6 100 [(7, .int l7_67), (6, .int l6_59), (5, .int l5_59), (4, .int l4_67), (0, .ref 116), (1, .int x1), (2, .int x2), (3, .int x3)] [.int ((x2 / 100) - (x2 / 100) / 100 * 100), .int l7_67] i67 a67 q67 r67 (by rfl) ?_
                          refine ft_if mi_k201 (decide (((x2 / 100) - (x2 / 100) / 100 * 100) ≤ l7_67)) 155 103 [(7, .int l7_67), (6, .int l6_59), (5, .int l5_59), (4, .int l4_67), (0, .ref 116), (1, .int x1), (2, .int x2), (3, .int x3)] [] (by rfl) (fun c => ?_) (fun c => ?_)
                          ·
                            have c68 : ((x2 / 100) - (x2 / 100) / 100 * 100).toInt ≤ l7_67.toInt := kd_le c; clear c
                            have hG69 := kG_call hL59 hL67 (by decide +kernel)
                            refine ft_go mi_k201 2 157 [(7, .int l7_67), (6, .int l6_59), (5, .int l5_59), (4, .int l4_67), (0, .ref 116), (1, .int x1), (2, .int x2), (3, .int x3)] [.int (-1), .int x3] i67 a67 q67 r67 (by rfl) ?_
                            refine ft_if mi_k201 (x3 == (-1)) 171 160 [(7, .int l7_67), (6, .int l6_59), (5, .int l5_59), (4, .int l4_67), (0, .ref 116), (1, .int x1), (2, .int x2), (3, .int x3)] [] (by rfl) (fun c => ?_) (fun c => ?_)
                            ·
                              have c70 : x3.toInt = ((-1) : Int32).toInt := kd_eq c; clear c
                              exact (oz405 c70 z57.1 knm1).elim
                            ·
                              have c71 : x3.toInt ≠ ((-1) : Int32).toInt := kd_eqF c; clear c
                              refine ft_go mi_k201 4 167 [(7, .int l7_67), (6, .int l6_59), (5, .int l5_59), (4, .int l4_67), (0, .ref 116), (1, .int x1), (2, .int x2), (3, .int x3)] [.int x3, .ref 118, .int l5_59] i67 a67 q67 r67 (by rfl) ?_
                              refine ko_iald3 mi_k201.1 (n := 31) (c := 31) (ax := (0, 0, 0, 0, 0)) (mi_k201.2 _ _ (by rfl)) (by rfl) (ksG118 _ _ _ _) (hG69.I.2.1 118) rfl (oz3 z57.1) (oz385 fi_7424.2 z57.2) ?_
                              have r72 : ((x3.toInt = 18 → (0 : Int) ≤ ((a67 118).getD x3.toNatClampNeg 0).toInt ∧ ((a67 118).getD x3.toNatClampNeg 0).toInt ≤ 5)) ∧ ((19 ≤ x3.toInt → x3.toInt ≤ 24 → (0 : Int) ≤ ((a67 118).getD x3.toNatClampNeg 0).toInt ∧ ((a67 118).getD x3.toNatClampNeg 0).toInt ≤ 7)) := kE_ncond (p := 118) hG69.I (by decide) (j := x3) (oz3 z57.1)
                              have b73 : ((-2147483648 : Int) ≤ l5_59.toInt) ∧ (l5_59.toInt ≤ 2147483647) := kd_bd l5_59
                              have b74 : ((-2147483648 : Int) ≤ ((a67 118).getD x3.toNatClampNeg 0).toInt) ∧ (((a67 118).getD x3.toNatClampNeg 0).toInt ≤ 2147483647) := kd_bd ((a67 118).getD x3.toNatClampNeg 0)
                              refine ft_go mi_k201 6 177 [(5, .int (l5_59 + ((a67 118).getD x3.toNatClampNeg 0))), (7, .int l7_67), (6, .int l6_59), (4, .int l4_67), (0, .ref 116), (1, .int x1), (2, .int x2), (3, .int x3)] [.int 0, .ref 139, .ref 116] i67 a67 q67 r67 (by rfl) ?_
                              refine ko_callN mi_k201.1 (pc := 177) (ls := [(5, .int (l5_59 + ((a67 118).getD x3.toNatClampNeg 0))), (7, .int l7_67), (6, .int l6_59), (4, .int l4_67), (0, .ref 116), (1, .int x1), (2, .int x2), (3, .int x3)]) (st := [.int 0, .ref 139, .ref 116]) (h := ks i67 a67 q67 r67) (i := (.invokevirtual 273, 3, 169, 0, 9, 0, 423)) (mi_k201.2 _ _ (by rfl)) (ft_invS mi_pq169 (by rfl)) (cy := mi_c169) mi_pq169 rfl (kc169_116_139 hG69.I hG69.R 0 (oz236 kn0)) (by decide) ?_
                              intro ig75 ag75 qg75 rg75 kg75 hg75
                              have hGg75 := kG_call hG69 kg75 (by decide +kernel)
                              have s76 : (l6_59 + 1).toInt = l6_59.toInt + (1 : Int32).toInt := kd_add (oz12 p59_0 kn1) (oz537 c64 z5.2 kn30 kn1)
                              refine ft_go mi_k201 2 71 [(6, .int (l6_59 + 1)), (5, .int (l5_59 + ((a67 118).getD x3.toNatClampNeg 0))), (7, .int l7_67), (4, .int l4_67), (0, .ref 116), (1, .int x1), (2, .int x2), (3, .int x3)] [] ig75 ag75 qg75 rg75 (by rfl) ?_
                              refine ko_perm [(6, .int (l6_59 + 1)), (5, .int (l5_59 + ((a67 118).getD x3.toNatClampNeg 0))), (4, .int l4_67), (0, .ref 116), (1, .int x1), (2, .int x2), (3, .int x3)] (List.forall_mem_cons.mpr ⟨(List.Mem.head _), (List.forall_mem_cons.mpr ⟨(List.Mem.tail _ (List.Mem.head _)), (List.forall_mem_cons.mpr ⟨(List.Mem.tail _ (List.Mem.tail _ (List.Mem.tail _ (List.Mem.head _)))), (List.forall_mem_cons.mpr ⟨(List.Mem.tail _ (List.Mem.tail _ (List.Mem.tail _ (List.Mem.tail _ (List.Mem.head _))))), (List.forall_mem_cons.mpr ⟨(List.Mem.tail _ (List.Mem.tail _ (List.Mem.tail _ (List.Mem.tail _ (List.Mem.tail _ (List.Mem.head _)))))), (List.forall_mem_cons.mpr ⟨(List.Mem.tail _ (List.Mem.tail _ (List.Mem.tail _ (List.Mem.tail _ (List.Mem.tail _ (List.Mem.tail _ (List.Mem.head _))))))), (List.forall_mem_cons.mpr ⟨(List.Mem.tail _ (List.Mem.tail _ (List.Mem.tail _ (List.Mem.tail _ (List.Mem.tail _ (List.Mem.tail _ (List.Mem.tail _ (List.Mem.head _)))))))), (fun _ h => absurd h List.not_mem_nil)⟩)⟩)⟩)⟩)⟩)⟩)⟩) ?_
                              exact ih59 _ _ _ _ _ _ _ hGg75 (oz14 p59_0 s76 kn1) (kj_meas (oz234 s76 kn1) (oz538 c64 z5.2 kn30) hm59)
                          ·
                            have c77 : l7_67.toInt < ((x2 / 100) - (x2 / 100) / 100 * 100).toInt := kd_leF c; clear c
                            have b78 : ((-2147483648 : Int) ≤ l4_67.toInt) ∧ (l4_67.toInt ≤ 2147483647) := kd_bd l4_67
                            have b79 : ((-2147483648 : Int) ≤ (l4_67 * 1103515245).toInt) ∧ ((l4_67 * 1103515245).toInt ≤ 2147483647) := kd_bd (l4_67 * 1103515245)
                            have s80 : (0 : Int) ≤ ((((l4_67 * 1103515245) + 12345).toUInt32 >>> ((16 : Int32).toUInt32 &&& Int32.toUInt32 31)).toInt32).toInt := kd_ushr 16 (by decide) (by decide) (by decide)
                            have s81 : (((((l4_67 * 1103515245) + 12345).toUInt32 >>> ((16 : Int32).toUInt32 &&& Int32.toUInt32 31)).toInt32) - ((((l4_67 * 1103515245) + 12345).toUInt32 >>> ((16 : Int32).toUInt32 &&& Int32.toUInt32 31)).toInt32) / 12 * 12).toInt = (((((l4_67 * 1103515245) + 12345).toUInt32 >>> ((16 : Int32).toUInt32 &&& Int32.toUInt32 31)).toInt32).toInt % 12) := kd_rem 12 kn12 (by decide) (oz3 s80)
                            refine ft_go mi_k201 14 127 [(4, .int ((l4_67 * 1103515245) + 12345)), (7, .int l7_67), (6, .int l6_59), (5, .int l5_59), (0, .ref 116), (1, .int x1), (2, .int x2), (3, .int x3)] [.int (x2 - x2 / 100 * 100), .int (((((l4_67 * 1103515245) + 12345).toUInt32 >>> ((16 : Int32).toUInt32 &&& Int32.toUInt32 31)).toInt32) - ((((l4_67 * 1103515245) + 12345).toUInt32 >>> ((16 : Int32).toUInt32 &&& Int32.toUInt32 31)).toInt32) / 12 * 12)] i67 a67 q67 r67 (by rfl) ?_
                            refine ft_if mi_k201 (decide ((x2 - x2 / 100 * 100) ≤ (((((l4_67 * 1103515245) + 12345).toUInt32 >>> ((16 : Int32).toUInt32 &&& Int32.toUInt32 31)).toInt32) - ((((l4_67 * 1103515245) + 12345).toUInt32 >>> ((16 : Int32).toUInt32 &&& Int32.toUInt32 31)).toInt32) / 12 * 12))) 134 130 [(4, .int ((l4_67 * 1103515245) + 12345)), (7, .int l7_67), (6, .int l6_59), (5, .int l5_59), (0, .ref 116), (1, .int x1), (2, .int x2), (3, .int x3)] [] (by rfl) (fun c => ?_) (fun c => ?_)
                            ·
                              have c82 : (x2 - x2 / 100 * 100).toInt ≤ (((((l4_67 * 1103515245) + 12345).toUInt32 >>> ((16 : Int32).toUInt32 &&& Int32.toUInt32 31)).toInt32) - ((((l4_67 * 1103515245) + 12345).toUInt32 >>> ((16 : Int32).toUInt32 &&& Int32.toUInt32 31)).toInt32) / 12 * 12).toInt := kd_le c; clear c
                              have s83 : (0 : Int) ≤ ((((l4_67 * 1103515245) + 12345).toUInt32 >>> ((8 : Int32).toUInt32 &&& Int32.toUInt32 31)).toInt32).toInt := kd_ushr 8 (by decide) (by decide) (by decide)
                              have fi67_7424 : ((0 : Int) ≤ (i67 7424).toInt) ∧ ((i67 7424).toInt ≤ 8) := hL67.I.1 7424
                              have efi67_7424 : (i67 7424).toInt = (i59 7424).toInt := hL67.ti 7424 rfl
                              refine ft_go mi_k201 6 144 [(4, .int ((l4_67 * 1103515245) + 12345)), (7, .int l7_67), (6, .int l6_59), (5, .int l5_59), (0, .ref 116), (1, .int x1), (2, .int x2), (3, .int x3)] [.int (i67 7424), .int ((((l4_67 * 1103515245) + 12345).toUInt32 >>> ((8 : Int32).toUInt32 &&& Int32.toUInt32 31)).toInt32), .ref 116] i67 a67 q67 r67 (by rfl) ?_
                              have s84 : ((0 : Int) ≤ (((((l4_67 * 1103515245) + 12345).toUInt32 >>> ((8 : Int32).toUInt32 &&& Int32.toUInt32 31)).toInt32) - ((((l4_67 * 1103515245) + 12345).toUInt32 >>> ((8 : Int32).toUInt32 &&& Int32.toUInt32 31)).toInt32) / (i67 7424) * (i67 7424)).toInt) ∧ ((((((l4_67 * 1103515245) + 12345).toUInt32 >>> ((8 : Int32).toUInt32 &&& Int32.toUInt32 31)).toInt32) - ((((l4_67 * 1103515245) + 12345).toUInt32 >>> ((8 : Int32).toUInt32 &&& Int32.toUInt32 31)).toInt32) / (i67 7424) * (i67 7424)).toInt < (i67 7424).toInt) := kd_remv (oz540 c66 efi67_7424 kn0) (oz3 s83)
                              refine ko_irem mi_k201.1 (ax := (0, 0, 0, 0, 0)) (mi_k201.2 _ _ (by rfl)) (oz539 c66 efi67_7424 kn0) ?_
                              have hG85 := kG_call hL59 hL67 (by decide +kernel)
                              have hG86 := kG_call hGg58 hG85 (by decide +kernel)
                              refine ko_callI mi_k201.1 (pc := 145) (ls := [(4, .int ((l4_67 * 1103515245) + 12345)), (7, .int l7_67), (6, .int l6_59), (5, .int l5_59), (0, .ref 116), (1, .int x1), (2, .int x2), (3, .int x3)]) (st := [.int (((((l4_67 * 1103515245) + 12345).toUInt32 >>> ((8 : Int32).toUInt32 &&& Int32.toUInt32 31)).toInt32) - ((((l4_67 * 1103515245) + 12345).toUInt32 >>> ((8 : Int32).toUInt32 &&& Int32.toUInt32 31)).toInt32) / (i67 7424) * (i67 7424)), .ref 116]) (h := ks i67 a67 q67 r67) (i := (.invokevirtual 260, 3, 166, 0, 9, 0, 415)) (mi_k201.2 _ _ (by rfl)) (ft_invS mi_pq166 (by rfl)) (cy := mi_c166) mi_pq166 rfl (kc166_116 hL67.I hL67.R (((((l4_67 * 1103515245) + 12345).toUInt32 >>> ((8 : Int32).toUInt32 &&& Int32.toUInt32 31)).toInt32) - ((((l4_67 * 1103515245) + 12345).toUInt32 >>> ((8 : Int32).toUInt32 &&& Int32.toUInt32 31)).toInt32) / (i67 7424) * (i67 7424)) (oz423 fi67_7424.2 s84.1 s84.2) (kCode_of (i1 := i67) hE_code (hG86.fi 7432 rfl) (hG86.fa 120 rfl) (hG86.fa 121 rfl) (hG86.fa 122 rfl) (hG86.fa 123 rfl))) (by decide) ?_
                              intro vg87 ig87 ag87 qg87 rg87 kg87 hg87
                              have hGg87 := kG_call hL67 kg87 (by decide +kernel)
                              rcases hg87 with ⟨eg87, hg87⟩ | ⟨eg87, hg87⟩
                              ·
                                subst eg87
                                have s88 : (l7_67 + 1).toInt = l7_67.toInt + (1 : Int32).toInt := kd_add (oz12 p67_0 kn1) (oz541 c77 s7 kn1)
                                refine ft_go mi_k201 3 91 [(7, .int (l7_67 + 1)), (4, .int ((l4_67 * 1103515245) + 12345)), (6, .int l6_59), (5, .int l5_59), (0, .ref 116), (1, .int x1), (2, .int x2), (3, .int x3)] [] ig87 ag87 qg87 rg87 (by rfl) ?_
                                refine ko_perm [(7, .int (l7_67 + 1)), (6, .int l6_59), (5, .int l5_59), (4, .int ((l4_67 * 1103515245) + 12345)), (0, .ref 116), (1, .int x1), (2, .int x2), (3, .int x3)] (List.forall_mem_cons.mpr ⟨(List.Mem.head _), (List.forall_mem_cons.mpr ⟨(List.Mem.tail _ (List.Mem.tail _ (List.Mem.head _))), (List.forall_mem_cons.mpr ⟨(List.Mem.tail _ (List.Mem.tail _ (List.Mem.tail _ (List.Mem.head _)))), (List.forall_mem_cons.mpr ⟨(List.Mem.tail _ (List.Mem.head _)), (List.forall_mem_cons.mpr ⟨(List.Mem.tail _ (List.Mem.tail _ (List.Mem.tail _ (List.Mem.tail _ (List.Mem.head _))))), (List.forall_mem_cons.mpr ⟨(List.Mem.tail _ (List.Mem.tail _ (List.Mem.tail _ (List.Mem.tail _ (List.Mem.tail _ (List.Mem.head _)))))), (List.forall_mem_cons.mpr ⟨(List.Mem.tail _ (List.Mem.tail _ (List.Mem.tail _ (List.Mem.tail _ (List.Mem.tail _ (List.Mem.tail _ (List.Mem.head _))))))), (List.forall_mem_cons.mpr ⟨(List.Mem.tail _ (List.Mem.tail _ (List.Mem.tail _ (List.Mem.tail _ (List.Mem.tail _ (List.Mem.tail _ (List.Mem.tail _ (List.Mem.head _)))))))), (fun _ h => absurd h List.not_mem_nil)⟩)⟩)⟩)⟩)⟩)⟩)⟩)⟩) ?_
                                exact ih67 _ _ _ _ _ _ hGg87 (oz14 p67_0 s88 kn1) (kj_meas (oz542 s88 kn1) (oz543 c77 s7) hm67)
                              ·
                                subst eg87
                                have s89 : (l7_67 + 1).toInt = l7_67.toInt + (1 : Int32).toInt := kd_add (oz12 p67_0 kn1) (oz541 c77 s7 kn1)
                                refine ft_go mi_k201 3 91 [(7, .int (l7_67 + 1)), (4, .int ((l4_67 * 1103515245) + 12345)), (6, .int l6_59), (5, .int l5_59), (0, .ref 116), (1, .int x1), (2, .int x2), (3, .int x3)] [] ig87 ag87 qg87 rg87 (by rfl) ?_
                                refine ko_perm [(7, .int (l7_67 + 1)), (6, .int l6_59), (5, .int l5_59), (4, .int ((l4_67 * 1103515245) + 12345)), (0, .ref 116), (1, .int x1), (2, .int x2), (3, .int x3)] (List.forall_mem_cons.mpr ⟨(List.Mem.head _), (List.forall_mem_cons.mpr ⟨(List.Mem.tail _ (List.Mem.tail _ (List.Mem.head _))), (List.forall_mem_cons.mpr ⟨(List.Mem.tail _ (List.Mem.tail _ (List.Mem.tail _ (List.Mem.head _)))), (List.forall_mem_cons.mpr ⟨(List.Mem.tail _ (List.Mem.head _)), (List.forall_mem_cons.mpr ⟨(List.Mem.tail _ (List.Mem.tail _ (List.Mem.tail _ (List.Mem.tail _ (List.Mem.head _))))), (List.forall_mem_cons.mpr ⟨(List.Mem.tail _ (List.Mem.tail _ (List.Mem.tail _ (List.Mem.tail _ (List.Mem.tail _ (List.Mem.head _)))))), (List.forall_mem_cons.mpr ⟨(List.Mem.tail _ (List.Mem.tail _ (List.Mem.tail _ (List.Mem.tail _ (List.Mem.tail _ (List.Mem.tail _ (List.Mem.head _))))))), (List.forall_mem_cons.mpr ⟨(List.Mem.tail _ (List.Mem.tail _ (List.Mem.tail _ (List.Mem.tail _ (List.Mem.tail _ (List.Mem.tail _ (List.Mem.tail _ (List.Mem.head _)))))))), (fun _ h => absurd h List.not_mem_nil)⟩)⟩)⟩)⟩)⟩)⟩)⟩)⟩) ?_
                                exact ih67 _ _ _ _ _ _ hGg87 (oz14 p67_0 s89 kn1) (kj_meas (oz542 s89 kn1) (oz543 c77 s7) hm67)
                            ·
                              have c90 : (((((l4_67 * 1103515245) + 12345).toUInt32 >>> ((16 : Int32).toUInt32 &&& Int32.toUInt32 31)).toInt32) - ((((l4_67 * 1103515245) + 12345).toUInt32 >>> ((16 : Int32).toUInt32 &&& Int32.toUInt32 31)).toInt32) / 12 * 12).toInt < (x2 - x2 / 100 * 100).toInt := kd_leF c; clear c
                              refine ft_go mi_k201 1 131 [(4, .int ((l4_67 * 1103515245) + 12345)), (7, .int l7_67), (6, .int l6_59), (5, .int l5_59), (0, .ref 116), (1, .int x1), (2, .int x2), (3, .int x3)] [.ref 116] i67 a67 q67 r67 (by rfl) ?_
                              refine ko_callN mi_k201.1 (pc := 131) (ls := [(4, .int ((l4_67 * 1103515245) + 12345)), (7, .int l7_67), (6, .int l6_59), (5, .int l5_59), (0, .ref 116), (1, .int x1), (2, .int x2), (3, .int x3)]) (st := [.ref 116]) (h := ks i67 a67 q67 r67) (i := (.invokevirtual 282, 3, 167, 0, 9, 0, 426)) (mi_k201.2 _ _ (by rfl)) (ft_invS mi_pq167 (by rfl)) (cy := mi_c167) mi_pq167 rfl (kc167_116 hL67.I hL67.R ) (by decide) ?_
                              intro ig91 ag91 qg91 rg91 kg91 hg91
                              have hGg91 := kG_call hL67 kg91 (by decide +kernel)
                              have s92 : (0 : Int) ≤ ((((l4_67 * 1103515245) + 12345).toUInt32 >>> ((8 : Int32).toUInt32 &&& Int32.toUInt32 31)).toInt32).toInt := kd_ushr 8 (by decide) (by decide) (by decide)
                              have fig91_7424 : ((0 : Int) ≤ (ig91 7424).toInt) ∧ ((ig91 7424).toInt ≤ 8) := hGg91.I.1 7424
                              have fi67_7424 : ((0 : Int) ≤ (i67 7424).toInt) ∧ ((i67 7424).toInt ≤ 8) := hL67.I.1 7424
                              have efi67_7424 : (i67 7424).toInt = (i59 7424).toInt := hL67.ti 7424 rfl
                              have efig91_7424 : (ig91 7424).toInt = (i67 7424).toInt := kg91.ti 7424 rfl
                              refine ft_go mi_k201 6 144 [(4, .int ((l4_67 * 1103515245) + 12345)), (7, .int l7_67), (6, .int l6_59), (5, .int l5_59), (0, .ref 116), (1, .int x1), (2, .int x2), (3, .int x3)] [.int (ig91 7424), .int ((((l4_67 * 1103515245) + 12345).toUInt32 >>> ((8 : Int32).toUInt32 &&& Int32.toUInt32 31)).toInt32), .ref 116] ig91 ag91 qg91 rg91 (by rfl) ?_
                              have s93 : ((0 : Int) ≤ (((((l4_67 * 1103515245) + 12345).toUInt32 >>> ((8 : Int32).toUInt32 &&& Int32.toUInt32 31)).toInt32) - ((((l4_67 * 1103515245) + 12345).toUInt32 >>> ((8 : Int32).toUInt32 &&& Int32.toUInt32 31)).toInt32) / (ig91 7424) * (ig91 7424)).toInt) ∧ ((((((l4_67 * 1103515245) + 12345).toUInt32 >>> ((8 : Int32).toUInt32 &&& Int32.toUInt32 31)).toInt32) - ((((l4_67 * 1103515245) + 12345).toUInt32 >>> ((8 : Int32).toUInt32 &&& Int32.toUInt32 31)).toInt32) / (ig91 7424) * (ig91 7424)).toInt < (ig91 7424).toInt) := kd_remv (oz545 c66 efi67_7424 efig91_7424 kn0) (oz3 s92)
                              refine ko_irem mi_k201.1 (ax := (0, 0, 0, 0, 0)) (mi_k201.2 _ _ (by rfl)) (oz544 c66 efi67_7424 efig91_7424 kn0) ?_
                              have hG94 := kG_call hL59 hGg91 (by decide +kernel)
                              have hG95 := kG_call hGg58 hG94 (by decide +kernel)
                              refine ko_callI mi_k201.1 (pc := 145) (ls := [(4, .int ((l4_67 * 1103515245) + 12345)), (7, .int l7_67), (6, .int l6_59), (5, .int l5_59), (0, .ref 116), (1, .int x1), (2, .int x2), (3, .int x3)]) (st := [.int (((((l4_67 * 1103515245) + 12345).toUInt32 >>> ((8 : Int32).toUInt32 &&& Int32.toUInt32 31)).toInt32) - ((((l4_67 * 1103515245) + 12345).toUInt32 >>> ((8 : Int32).toUInt32 &&& Int32.toUInt32 31)).toInt32) / (ig91 7424) * (ig91 7424)), .ref 116]) (h := ks ig91 ag91 qg91 rg91) (i := (.invokevirtual 260, 3, 166, 0, 9, 0, 415)) (mi_k201.2 _ _ (by rfl)) (ft_invS mi_pq166 (by rfl)) (cy := mi_c166) mi_pq166 rfl (kc166_116 hGg91.I hGg91.R (((((l4_67 * 1103515245) + 12345).toUInt32 >>> ((8 : Int32).toUInt32 &&& Int32.toUInt32 31)).toInt32) - ((((l4_67 * 1103515245) + 12345).toUInt32 >>> ((8 : Int32).toUInt32 &&& Int32.toUInt32 31)).toInt32) / (ig91 7424) * (ig91 7424)) (oz423 fig91_7424.2 s93.1 s93.2) (kCode_of (i1 := ig91) hE_code (hG95.fi 7432 rfl) (hG95.fa 120 rfl) (hG95.fa 121 rfl) (hG95.fa 122 rfl) (hG95.fa 123 rfl))) (by decide) ?_
                              intro vg96 ig96 ag96 qg96 rg96 kg96 hg96
                              have hGg96 := kG_call hGg91 kg96 (by decide +kernel)
                              rcases hg96 with ⟨eg96, hg96⟩ | ⟨eg96, hg96⟩
                              ·
                                subst eg96
                                have s97 : (l7_67 + 1).toInt = l7_67.toInt + (1 : Int32).toInt := kd_add (oz12 p67_0 kn1) (oz541 c77 s7 kn1)
                                refine ft_go mi_k201 3 91 [(7, .int (l7_67 + 1)), (4, .int ((l4_67 * 1103515245) + 12345)), (6, .int l6_59), (5, .int l5_59), (0, .ref 116), (1, .int x1), (2, .int x2), (3, .int x3)] [] ig96 ag96 qg96 rg96 (by rfl) ?_
                                refine ko_perm [(7, .int (l7_67 + 1)), (6, .int l6_59), (5, .int l5_59), (4, .int ((l4_67 * 1103515245) + 12345)), (0, .ref 116), (1, .int x1), (2, .int x2), (3, .int x3)] (List.forall_mem_cons.mpr ⟨(List.Mem.head _), (List.forall_mem_cons.mpr ⟨(List.Mem.tail _ (List.Mem.tail _ (List.Mem.head _))), (List.forall_mem_cons.mpr ⟨(List.Mem.tail _ (List.Mem.tail _ (List.Mem.tail _ (List.Mem.head _)))), (List.forall_mem_cons.mpr ⟨(List.Mem.tail _ (List.Mem.head _)), (List.forall_mem_cons.mpr ⟨(List.Mem.tail _ (List.Mem.tail _ (List.Mem.tail _ (List.Mem.tail _ (List.Mem.head _))))), (List.forall_mem_cons.mpr ⟨(List.Mem.tail _ (List.Mem.tail _ (List.Mem.tail _ (List.Mem.tail _ (List.Mem.tail _ (List.Mem.head _)))))), (List.forall_mem_cons.mpr ⟨(List.Mem.tail _ (List.Mem.tail _ (List.Mem.tail _ (List.Mem.tail _ (List.Mem.tail _ (List.Mem.tail _ (List.Mem.head _))))))), (List.forall_mem_cons.mpr ⟨(List.Mem.tail _ (List.Mem.tail _ (List.Mem.tail _ (List.Mem.tail _ (List.Mem.tail _ (List.Mem.tail _ (List.Mem.tail _ (List.Mem.head _)))))))), (fun _ h => absurd h List.not_mem_nil)⟩)⟩)⟩)⟩)⟩)⟩)⟩)⟩) ?_
                                exact ih67 _ _ _ _ _ _ hGg96 (oz14 p67_0 s97 kn1) (kj_meas (oz542 s97 kn1) (oz543 c77 s7) hm67)
                              ·
                                subst eg96
                                have s98 : (l7_67 + 1).toInt = l7_67.toInt + (1 : Int32).toInt := kd_add (oz12 p67_0 kn1) (oz541 c77 s7 kn1)
                                refine ft_go mi_k201 3 91 [(7, .int (l7_67 + 1)), (4, .int ((l4_67 * 1103515245) + 12345)), (6, .int l6_59), (5, .int l5_59), (0, .ref 116), (1, .int x1), (2, .int x2), (3, .int x3)] [] ig96 ag96 qg96 rg96 (by rfl) ?_
                                refine ko_perm [(7, .int (l7_67 + 1)), (6, .int l6_59), (5, .int l5_59), (4, .int ((l4_67 * 1103515245) + 12345)), (0, .ref 116), (1, .int x1), (2, .int x2), (3, .int x3)] (List.forall_mem_cons.mpr ⟨(List.Mem.head _), (List.forall_mem_cons.mpr ⟨(List.Mem.tail _ (List.Mem.tail _ (List.Mem.head _))), (List.forall_mem_cons.mpr ⟨(List.Mem.tail _ (List.Mem.tail _ (List.Mem.tail _ (List.Mem.head _)))), (List.forall_mem_cons.mpr ⟨(List.Mem.tail _ (List.Mem.head _)), (List.forall_mem_cons.mpr ⟨(List.Mem.tail _ (List.Mem.tail _ (List.Mem.tail _ (List.Mem.tail _ (List.Mem.head _))))), (List.forall_mem_cons.mpr ⟨(List.Mem.tail _ (List.Mem.tail _ (List.Mem.tail _ (List.Mem.tail _ (List.Mem.tail _ (List.Mem.head _)))))), (List.forall_mem_cons.mpr ⟨(List.Mem.tail _ (List.Mem.tail _ (List.Mem.tail _ (List.Mem.tail _ (List.Mem.tail _ (List.Mem.tail _ (List.Mem.head _))))))), (List.forall_mem_cons.mpr ⟨(List.Mem.tail _ (List.Mem.tail _ (List.Mem.tail _ (List.Mem.tail _ (List.Mem.tail _ (List.Mem.tail _ (List.Mem.tail _ (List.Mem.head _)))))))), (fun _ h => absurd h List.not_mem_nil)⟩)⟩)⟩)⟩)⟩)⟩)⟩)⟩) ?_
                                exact ih67 _ _ _ _ _ _ hGg96 (oz14 p67_0 s98 kn1) (kj_meas (oz542 s98 kn1) (oz543 c77 s7) hm67)
                      exact lp67 _ _ _ _ _ _ _ (kG_self _ hL59.I hL59.R) (oz46 kn0) (Nat.lt_succ_self _)
              exact lp59 _ _ _ _ _ _ _ _ (kG_self _ hGg58.I hGg58.R) (oz46 kn0) (Nat.lt_succ_self _)
            ·
              subst eg56
              have fi_7424 : ((0 : Int) ≤ (i 7424).toInt) ∧ ((i 7424).toInt ≤ 8) := hG.I.1 7424
              have z99 : ¬ (((0 : Int) ≤ x3.toInt) ∧ (x3.toInt < (i 7424).toInt)) := hg56
              refine ft_go mi_k201 2 57 [(0, .ref 116), (1, .int x1), (2, .int x2), (3, .int x3)] [.int (-1)] i a q r (by rfl) ?_
              exact ft_ret mi_k201 (by rfl) (hP (-1) _ _ _ _ hG trivial)
      ·
        subst eg8
        have z100 : ¬ (((1 : Int32).toInt ≤ ((x2 / 100) - (x2 / 100) / 100 * 100).toInt) ∧ (((x2 / 100) - (x2 / 100) / 100 * 100).toInt ≤ (60 : Int32).toInt)) := hg8
        refine ft_go mi_k201 2 57 [(0, .ref 116), (1, .int x1), (2, .int x2), (3, .int x3)] [.int (-1)] i a q r (by rfl) ?_
        exact ft_ret mi_k201 (by rfl) (hP (-1) _ _ _ _ hG trivial)
    ·
      subst eg4
      have z101 : ¬ (((1 : Int32).toInt ≤ (x2 / 10000).toInt) ∧ ((x2 / 10000).toInt ≤ (30 : Int32).toInt)) := hg4
      refine ft_go mi_k201 2 57 [(0, .ref 116), (1, .int x1), (2, .int x2), (3, .int x3)] [.int (-1)] i a q r (by rfl) ?_
      exact ft_ret mi_k201 (by rfl) (hP (-1) _ _ _ _ hG trivial)
def w202_116 : kW := ([7464, 7465, 7466, 7467], [118, 128, 129, 130, 141], [], [])
set_option maxRecDepth 100000 in
theorem kc202_116 {i : Nat → Int32} {a : Nat → List Int32} {q : Nat → List Int64} {r : Nat → Nat} (hI : kI i a q) (hr : kr r) (x1 : Int32) (hE_code : kCode i a) : km 11 202 [.ref 116, .int x1] (ks i a q r) (kVI w202_116 i a q r (fun v i1 a1 q1 r1 => True)) := by
  have hG := kG_self w202_116 hI hr
  refine km_ofI (q := (mi_h202, mi_c202)) rfl (by decide) (Nat.le_of_ble_eq_true rfl) ?_
  intro P hP
  refine ft_go mi_k202 2 2 [(0, .ref 116), (1, .int x1)] [.int x1, .ref 116] i a q r (by rfl) ?_
  refine ko_callPI mi_k202.1 (pc := 2) (ls := [(0, .ref 116), (1, .int x1)]) (st := [.int x1, .ref 116]) (h := ks i a q r) (i := (.invokevirtual 137, 3, 132, 0, 9, 0, 387)) (mi_k202.2 _ _ (by rfl)) (ft_invS mi_pq132 (by rfl)) (cy := mi_c132) mi_pq132 rfl (kc132_116 hG.I hG.R x1) (by decide) ?_
  intro vg1 hg1
  rcases hg1 with ⟨eg1, hg1⟩ | ⟨eg1, hg1⟩
  ·
    subst eg1
    have fi_7424 : ((0 : Int) ≤ (i 7424).toInt) ∧ ((i 7424).toInt ≤ 8) := hG.I.1 7424
    have z2 : ((0 : Int) ≤ x1.toInt) ∧ (x1.toInt < (i 7424).toInt) := hg1
    have hJ3 := kG_i hG 7467 rfl (v := 0) (kd_bd _)
    refine ft_go mi_k202 6 17 [(0, .ref 116), (1, .int x1)] [.int x1, .ref 116] (ku i 7467 0) a q r (by rfl) ?_
    refine ko_callI mi_k202.1 (pc := 17) (ls := [(0, .ref 116), (1, .int x1)]) (st := [.int x1, .ref 116]) (h := ks (ku i 7467 0) a q r) (i := (.invokevirtual 260, 3, 166, 0, 9, 0, 415)) (mi_k202.2 _ _ (by rfl)) (ft_invS mi_pq166 (by rfl)) (cy := mi_c166) mi_pq166 rfl (kc166_116 hJ3.I hJ3.R x1 (oz423 fi_7424.2 z2.1 z2.2) (kCode_of (i1 := ku i 7467 0) hE_code (hJ3.fi 7432 rfl) (hJ3.fa 120 rfl) (hJ3.fa 121 rfl) (hJ3.fa 122 rfl) (hJ3.fa 123 rfl))) (by decide) ?_
    intro vg4 ig4 ag4 qg4 rg4 kg4 hg4
    have hGg4 := kG_call hJ3 kg4 (by decide +kernel)
    rcases hg4 with ⟨eg4, hg4⟩ | ⟨eg4, hg4⟩
    ·
      subst eg4
      refine ft_go mi_k202 5 29 [(0, .ref 116), (1, .int x1)] [.int 0, .ref 130, .int 0, .ref 130] ig4 ag4 qg4 rg4 (by rfl) ?_
      refine ko_iald3 mi_k202.1 (n := 5) (c := 5) (ax := (0, 0, 0, 0, 0)) (mi_k202.2 _ _ (by rfl)) (by rfl) (ksG130 _ _ _ _) (hGg4.I.2.1 130) rfl (oz46 kn0) (oz547 kn0) ?_
      have b5 : ((-2147483648 : Int) ≤ ((ag4 130).getD (0 : Int32).toNatClampNeg 0).toInt) ∧ (((ag4 130).getD (0 : Int32).toNatClampNeg 0).toInt ≤ 2147483647) := kd_bd ((ag4 130).getD (0 : Int32).toNatClampNeg 0)
      refine ft_go mi_k202 2 32 [(0, .ref 116), (1, .int x1)] [.int (((ag4 130).getD (0 : Int32).toNatClampNeg 0) + 1), .int 0, .ref 130] ig4 ag4 qg4 rg4 (by rfl) ?_
      refine ko_iast3 mi_k202.1 (n := 5) (c := 5) (ax := (0, 0, 0, 0, 0)) (mi_k202.2 _ _ (by rfl)) (by rfl) (ksG130 _ _ _ _) (ksA130 _ _ _ _) (hGg4.I.2.1 130) rfl (oz46 kn0) (oz547 kn0) ?_
      intro a6 ea6 fa6
      have hJ6 := kG_a3 hGg4 130 rfl ea6 fa6 (kd_bd _)
      refine ft_go mi_k202 4 39 [(0, .ref 116), (1, .int x1)] [.int 1, .ref 130, .int 1, .ref 130] ig4 a6 qg4 rg4 (by rfl) ?_
      refine ko_iald3 mi_k202.1 (n := 5) (c := 5) (ax := (0, 0, 0, 0, 0)) (mi_k202.2 _ _ (by rfl)) (by rfl) (ksG130 _ _ _ _) (hJ6.I.2.1 130) rfl (oz246 kn1) (oz548 kn1) ?_
      have b7 : ((-2147483648 : Int) ≤ ((a6 130).getD (1 : Int32).toNatClampNeg 0).toInt) ∧ (((a6 130).getD (1 : Int32).toNatClampNeg 0).toInt ≤ 2147483647) := kd_bd ((a6 130).getD (1 : Int32).toNatClampNeg 0)
      have b8 : ((-2147483648 : Int) ≤ (ig4 7465).toInt) ∧ ((ig4 7465).toInt ≤ 2147483647) := kd_bd (ig4 7465)
      refine ft_go mi_k202 3 45 [(0, .ref 116), (1, .int x1)] [.int (((a6 130).getD (1 : Int32).toNatClampNeg 0) + (ig4 7465)), .int 1, .ref 130] ig4 a6 qg4 rg4 (by rfl) ?_
      refine ko_iast3 mi_k202.1 (n := 5) (c := 5) (ax := (0, 0, 0, 0, 0)) (mi_k202.2 _ _ (by rfl)) (by rfl) (ksG130 _ _ _ _) (ksA130 _ _ _ _) (hJ6.I.2.1 130) rfl (oz246 kn1) (oz548 kn1) ?_
      intro a9 ea9 fa9
      have hJ9 := kG_a3 hJ6 130 rfl ea9 fa9 (kd_bd _)
      refine ft_go mi_k202 4 52 [(0, .ref 116), (1, .int x1)] [.int 2, .ref 130, .int 2, .ref 130] ig4 a9 qg4 rg4 (by rfl) ?_
      refine ko_iald3 mi_k202.1 (n := 5) (c := 5) (ax := (0, 0, 0, 0, 0)) (mi_k202.2 _ _ (by rfl)) (by rfl) (ksG130 _ _ _ _) (hJ9.I.2.1 130) rfl (oz256 kn2) (oz549 kn2) ?_
      have b10 : ((-2147483648 : Int) ≤ ((a9 130).getD (2 : Int32).toNatClampNeg 0).toInt) ∧ (((a9 130).getD (2 : Int32).toNatClampNeg 0).toInt ≤ 2147483647) := kd_bd ((a9 130).getD (2 : Int32).toNatClampNeg 0)
      have b11 : ((-2147483648 : Int) ≤ (ig4 7467).toInt) ∧ ((ig4 7467).toInt ≤ 2147483647) := kd_bd (ig4 7467)
      refine ft_go mi_k202 3 58 [(0, .ref 116), (1, .int x1)] [.int (((a9 130).getD (2 : Int32).toNatClampNeg 0) + (ig4 7467)), .int 2, .ref 130] ig4 a9 qg4 rg4 (by rfl) ?_
      refine ko_iast3 mi_k202.1 (n := 5) (c := 5) (ax := (0, 0, 0, 0, 0)) (mi_k202.2 _ _ (by rfl)) (by rfl) (ksG130 _ _ _ _) (ksA130 _ _ _ _) (hJ9.I.2.1 130) rfl (oz256 kn2) (oz549 kn2) ?_
      intro a12 ea12 fa12
      have hJ12 := kG_a3 hJ9 130 rfl ea12 fa12 (kd_bd _)
      refine ft_go mi_k202 2 63 [(0, .ref 116), (1, .int x1)] [.int (ig4 7465)] ig4 a12 qg4 rg4 (by rfl) ?_
      exact ft_ret mi_k202 (by rfl) (hP (ig4 7465) _ _ _ _ hJ12 trivial)
    ·
      subst eg4
      refine ft_go mi_k202 5 39 [(0, .ref 116), (1, .int x1)] [.int 1, .ref 130, .int 1, .ref 130] ig4 ag4 qg4 rg4 (by rfl) ?_
      refine ko_iald3 mi_k202.1 (n := 5) (c := 5) (ax := (0, 0, 0, 0, 0)) (mi_k202.2 _ _ (by rfl)) (by rfl) (ksG130 _ _ _ _) (hGg4.I.2.1 130) rfl (oz246 kn1) (oz548 kn1) ?_
      have b13 : ((-2147483648 : Int) ≤ ((ag4 130).getD (1 : Int32).toNatClampNeg 0).toInt) ∧ (((ag4 130).getD (1 : Int32).toNatClampNeg 0).toInt ≤ 2147483647) := kd_bd ((ag4 130).getD (1 : Int32).toNatClampNeg 0)
      have b14 : ((-2147483648 : Int) ≤ (ig4 7465).toInt) ∧ ((ig4 7465).toInt ≤ 2147483647) := kd_bd (ig4 7465)
      refine ft_go mi_k202 3 45 [(0, .ref 116), (1, .int x1)] [.int (((ag4 130).getD (1 : Int32).toNatClampNeg 0) + (ig4 7465)), .int 1, .ref 130] ig4 ag4 qg4 rg4 (by rfl) ?_
      refine ko_iast3 mi_k202.1 (n := 5) (c := 5) (ax := (0, 0, 0, 0, 0)) (mi_k202.2 _ _ (by rfl)) (by rfl) (ksG130 _ _ _ _) (ksA130 _ _ _ _) (hGg4.I.2.1 130) rfl (oz246 kn1) (oz548 kn1) ?_
      intro a15 ea15 fa15
      have hJ15 := kG_a3 hGg4 130 rfl ea15 fa15 (kd_bd _)
      refine ft_go mi_k202 4 52 [(0, .ref 116), (1, .int x1)] [.int 2, .ref 130, .int 2, .ref 130] ig4 a15 qg4 rg4 (by rfl) ?_
      refine ko_iald3 mi_k202.1 (n := 5) (c := 5) (ax := (0, 0, 0, 0, 0)) (mi_k202.2 _ _ (by rfl)) (by rfl) (ksG130 _ _ _ _) (hJ15.I.2.1 130) rfl (oz256 kn2) (oz549 kn2) ?_
      have b16 : ((-2147483648 : Int) ≤ ((a15 130).getD (2 : Int32).toNatClampNeg 0).toInt) ∧ (((a15 130).getD (2 : Int32).toNatClampNeg 0).toInt ≤ 2147483647) := kd_bd ((a15 130).getD (2 : Int32).toNatClampNeg 0)
      have b17 : ((-2147483648 : Int) ≤ (ig4 7467).toInt) ∧ ((ig4 7467).toInt ≤ 2147483647) := kd_bd (ig4 7467)
      refine ft_go mi_k202 3 58 [(0, .ref 116), (1, .int x1)] [.int (((a15 130).getD (2 : Int32).toNatClampNeg 0) + (ig4 7467)), .int 2, .ref 130] ig4 a15 qg4 rg4 (by rfl) ?_
      refine ko_iast3 mi_k202.1 (n := 5) (c := 5) (ax := (0, 0, 0, 0, 0)) (mi_k202.2 _ _ (by rfl)) (by rfl) (ksG130 _ _ _ _) (ksA130 _ _ _ _) (hJ15.I.2.1 130) rfl (oz256 kn2) (oz549 kn2) ?_
      intro a18 ea18 fa18
      have hJ18 := kG_a3 hJ15 130 rfl ea18 fa18 (kd_bd _)
      refine ft_go mi_k202 2 63 [(0, .ref 116), (1, .int x1)] [.int (ig4 7465)] ig4 a18 qg4 rg4 (by rfl) ?_
      exact ft_ret mi_k202 (by rfl) (hP (ig4 7465) _ _ _ _ hJ18 trivial)
  ·
    subst eg1
    have fi_7424 : ((0 : Int) ≤ (i 7424).toInt) ∧ ((i 7424).toInt ≤ 8) := hG.I.1 7424
    have z19 : ¬ (((0 : Int) ≤ x1.toInt) ∧ (x1.toInt < (i 7424).toInt)) := hg1
    refine ft_go mi_k202 2 9 [(0, .ref 116), (1, .int x1)] [.int (-1)] i a q r (by rfl) ?_
    exact ft_ret mi_k202 (by rfl) (hP (-1) _ _ _ _ hG trivial)
def w203_116 : kW := ([], [118, 130], [], [])
set_option maxRecDepth 100000 in
theorem kc203_116 {i : Nat → Int32} {a : Nat → List Int32} {q : Nat → List Int64} {r : Nat → Nat} (hI : kI i a q) (hr : kr r)  : km 3 203 [.ref 116] (ks i a q r) (kVI w203_116 i a q r (fun v i1 a1 q1 r1 => True)) := by
  have hG := kG_self w203_116 hI hr
  refine km_ofI (q := (mi_h203, mi_c203)) rfl (by decide) (Nat.le_of_ble_eq_true rfl) ?_
  intro P hP
  refine ft_go mi_k203 1 1 [(0, .ref 116)] [.ref 116] i a q r (by rfl) ?_
  refine ko_callN mi_k203.1 (pc := 1) (ls := [(0, .ref 116)]) (st := [.ref 116]) (h := ks i a q r) (i := (.invokevirtual 282, 3, 167, 0, 9, 0, 426)) (mi_k203.2 _ _ (by rfl)) (ft_invS mi_pq167 (by rfl)) (cy := mi_c167) mi_pq167 rfl (kc167_116 hG.I hG.R ) (by decide) ?_
  intro ig1 ag1 qg1 rg1 kg1 hg1
  have hGg1 := kG_call hG kg1 (by decide +kernel)
  refine ft_go mi_k203 4 10 [(0, .ref 116)] [.int 3, .ref 130, .int 3, .ref 130] ig1 ag1 qg1 rg1 (by rfl) ?_
  refine ko_iald3 mi_k203.1 (n := 5) (c := 5) (ax := (0, 0, 0, 0, 0)) (mi_k203.2 _ _ (by rfl)) (by rfl) (ksG130 _ _ _ _) (hGg1.I.2.1 130) rfl (oz260 kn3) (oz550 kn3) ?_
  have b2 : ((-2147483648 : Int) ≤ ((ag1 130).getD (3 : Int32).toNatClampNeg 0).toInt) ∧ (((ag1 130).getD (3 : Int32).toNatClampNeg 0).toInt ≤ 2147483647) := kd_bd ((ag1 130).getD (3 : Int32).toNatClampNeg 0)
  refine ft_go mi_k203 2 13 [(0, .ref 116)] [.int (((ag1 130).getD (3 : Int32).toNatClampNeg 0) + 1), .int 3, .ref 130] ig1 ag1 qg1 rg1 (by rfl) ?_
  refine ko_iast3 mi_k203.1 (n := 5) (c := 5) (ax := (0, 0, 0, 0, 0)) (mi_k203.2 _ _ (by rfl)) (by rfl) (ksG130 _ _ _ _) (ksA130 _ _ _ _) (hGg1.I.2.1 130) rfl (oz260 kn3) (oz550 kn3) ?_
  intro a3 ea3 fa3
  have hJ3 := kG_a3 hGg1 130 rfl ea3 fa3 (kd_bd _)
  refine ft_go mi_k203 3 20 [(0, .ref 116)] [.int 8, .ref 118] ig1 a3 qg1 rg1 (by rfl) ?_
  refine ko_iald3 mi_k203.1 (n := 31) (c := 31) (ax := (0, 0, 0, 0, 0)) (mi_k203.2 _ _ (by rfl)) (by rfl) (ksG118 _ _ _ _) (hJ3.I.2.1 118) rfl (oz85 kn8) (oz86 kn8) ?_
  have u4 : ((a3 118).getD (8 : Int32).toNatClampNeg 0).toInt = ((ag1 118).getD (8 : Int32).toNatClampNeg 0).toInt := congrArg (fun z : List Int32 => (z.getD (8 : Int32).toNatClampNeg 0).toInt) (fa3 118 (by decide))
  exact ft_ret mi_k203 (by rfl) (hP ((a3 118).getD (8 : Int32).toNatClampNeg 0) _ _ _ _ hJ3 trivial)
def w204_116 : kW := ([], [118, 130], [], [])
set_option maxRecDepth 100000 in
theorem kc204_116 {i : Nat → Int32} {a : Nat → List Int32} {q : Nat → List Int64} {r : Nat → Nat} (hI : kI i a q) (hr : kr r) (x1 : Int32) (x2 : Int32) (x3 : Int32) : km 5 204 [.ref 116, .int x1, .int x2, .int x3] (ks i a q r) (kVI w204_116 i a q r (fun v i1 a1 q1 r1 => True)) := by
  have hG := kG_self w204_116 hI hr
  refine km_ofI (q := (mi_h204, mi_c204)) rfl (by decide) (Nat.le_of_ble_eq_true rfl) ?_
  intro P hP
  refine ft_go mi_k204 2 2 [(0, .ref 116), (1, .int x1), (2, .int x2), (3, .int x3)] [.int x1, .ref 116] i a q r (by rfl) ?_
  refine ko_callPI mi_k204.1 (pc := 2) (ls := [(0, .ref 116), (1, .int x1), (2, .int x2), (3, .int x3)]) (st := [.int x1, .ref 116]) (h := ks i a q r) (i := (.invokevirtual 137, 3, 132, 0, 9, 0, 387)) (mi_k204.2 _ _ (by rfl)) (ft_invS mi_pq132 (by rfl)) (cy := mi_c132) mi_pq132 rfl (kc132_116 hG.I hG.R x1) (by decide) ?_
  intro vg1 hg1
  rcases hg1 with ⟨eg1, hg1⟩ | ⟨eg1, hg1⟩
  ·
    subst eg1
    have fi_7424 : ((0 : Int) ≤ (i 7424).toInt) ∧ ((i 7424).toInt ≤ 8) := hG.I.1 7424
    have z2 : ((0 : Int) ≤ x1.toInt) ∧ (x1.toInt < (i 7424).toInt) := hg1
    refine ft_go mi_k204 3 10 [(0, .ref 116), (1, .int x1), (2, .int x2), (3, .int x3)] [.int x2, .ref 116] i a q r (by rfl) ?_
    refine ko_callPI mi_k204.1 (pc := 10) (ls := [(0, .ref 116), (1, .int x1), (2, .int x2), (3, .int x3)]) (st := [.int x2, .ref 116]) (h := ks i a q r) (i := (.invokevirtual 137, 3, 132, 0, 9, 0, 387)) (mi_k204.2 _ _ (by rfl)) (ft_invS mi_pq132 (by rfl)) (cy := mi_c132) mi_pq132 rfl (kc132_116 hG.I hG.R x2) (by decide) ?_
    intro vg3 hg3
    rcases hg3 with ⟨eg3, hg3⟩ | ⟨eg3, hg3⟩
    ·
      subst eg3
      have z4 : ((0 : Int) ≤ x2.toInt) ∧ (x2.toInt < (i 7424).toInt) := hg3
      refine ft_go mi_k204 3 18 [(0, .ref 116), (1, .int x1), (2, .int x2), (3, .int x3)] [.int x2, .int x1] i a q r (by rfl) ?_
      refine ft_if mi_k204 (x1 == x2) 32 21 [(0, .ref 116), (1, .int x1), (2, .int x2), (3, .int x3)] [] (by rfl) (fun c => ?_) (fun c => ?_)
      ·
        have c5 : x1.toInt = x2.toInt := kd_eq c; clear c
        refine ft_go mi_k204 1 33 [(0, .ref 116), (1, .int x1), (2, .int x2), (3, .int x3)] [.int (-1)] i a q r (by rfl) ?_
        exact ft_ret mi_k204 (by rfl) (hP (-1) _ _ _ _ hG trivial)
      ·
        have c6 : x1.toInt ≠ x2.toInt := kd_eqF c; clear c
        refine ft_go mi_k204 3 26 [(0, .ref 116), (1, .int x1), (2, .int x2), (3, .int x3)] [.int 999, .int 1, .int x3] i a q r (by rfl) ?_
        refine ko_callPI mi_k204.1 (pc := 26) (ls := [(0, .ref 116), (1, .int x1), (2, .int x2), (3, .int x3)]) (st := [.int 999, .int 1, .int x3]) (h := ks i a q r) (i := (.invokestatic 119, 3, 131, 0, 9, 0, 379)) (mi_k204.2 _ _ (by rfl)) (ft_invS mi_pq131 (by rfl)) (cy := mi_c131) mi_pq131 rfl (kc131 hG.I hG.R x3 1 999) (by decide) ?_
        intro vg7 hg7
        rcases hg7 with ⟨eg7, hg7⟩ | ⟨eg7, hg7⟩
        ·
          subst eg7
          have z8 : ((1 : Int32).toInt ≤ x3.toInt) ∧ (x3.toInt ≤ (999 : Int32).toInt) := hg7
          refine ft_go mi_k204 4 39 [(0, .ref 116), (1, .int x1), (2, .int x2), (3, .int x3)] [.int x1, .ref 118] i a q r (by rfl) ?_
          refine ko_iald3 mi_k204.1 (n := 31) (c := 31) (ax := (0, 0, 0, 0, 0)) (mi_k204.2 _ _ (by rfl)) (by rfl) (ksG118 _ _ _ _) (hG.I.2.1 118) rfl (oz3 z2.1) (oz385 fi_7424.2 z2.2) ?_
          have r9 : ((x1.toInt = 18 → (0 : Int) ≤ ((a 118).getD x1.toNatClampNeg 0).toInt ∧ ((a 118).getD x1.toNatClampNeg 0).toInt ≤ 5)) ∧ ((19 ≤ x1.toInt → x1.toInt ≤ 24 → (0 : Int) ≤ ((a 118).getD x1.toNatClampNeg 0).toInt ∧ ((a 118).getD x1.toNatClampNeg 0).toInt ≤ 7)) := kE_ncond (p := 118) hG.I (by decide) (j := x1) (oz3 z2.1)
          refine ft_go mi_k204 1 41 [(0, .ref 116), (1, .int x1), (2, .int x2), (3, .int x3)] [.int x3, .int ((a 118).getD x1.toNatClampNeg 0)] i a q r (by rfl) ?_
          refine ft_if mi_k204 (decide (x3 ≤ ((a 118).getD x1.toNatClampNeg 0))) 47 44 [(0, .ref 116), (1, .int x1), (2, .int x2), (3, .int x3)] [] (by rfl) (fun c => ?_) (fun c => ?_)
          ·
            have c10 : x3.toInt ≤ ((a 118).getD x1.toNatClampNeg 0).toInt := kd_le c; clear c
            refine ft_go mi_k204 4 53 [(0, .ref 116), (1, .int x1), (2, .int x2), (3, .int x3)] [.int x1, .ref 118, .int x1, .ref 118] i a q r (by rfl) ?_
            refine ko_iald3 mi_k204.1 (n := 31) (c := 31) (ax := (0, 0, 0, 0, 0)) (mi_k204.2 _ _ (by rfl)) (by rfl) (ksG118 _ _ _ _) (hG.I.2.1 118) rfl (oz3 z2.1) (oz385 fi_7424.2 z2.2) ?_
            have b11 : ((-2147483648 : Int) ≤ ((a 118).getD x1.toNatClampNeg 0).toInt) ∧ (((a 118).getD x1.toNatClampNeg 0).toInt ≤ 2147483647) := kd_bd ((a 118).getD x1.toNatClampNeg 0)
            have b12 : ((-2147483648 : Int) ≤ x3.toInt) ∧ (x3.toInt ≤ 2147483647) := kd_bd x3
            have s13 : (((a 118).getD x1.toNatClampNeg 0) - x3).toInt = ((a 118).getD x1.toNatClampNeg 0).toInt - x3.toInt := kd_sub (oz551 c10) (oz552 b11.2 z8.1 kn1)
            refine ft_go mi_k204 2 56 [(0, .ref 116), (1, .int x1), (2, .int x2), (3, .int x3)] [.int (((a 118).getD x1.toNatClampNeg 0) - x3), .int x1, .ref 118] i a q r (by rfl) ?_
            refine ko_iast3 mi_k204.1 (n := 31) (c := 31) (ax := (0, 0, 0, 0, 0)) (mi_k204.2 _ _ (by rfl)) (by rfl) (ksG118 _ _ _ _) (ksA118 _ _ _ _) (hG.I.2.1 118) rfl (oz3 z2.1) (oz385 fi_7424.2 z2.2) ?_
            intro a14 ea14 fa14
            have hJ14 := kG_a3 hG 118 rfl ea14 fa14 (kE_nset (p := 118) (by decide) (oz3 z2.1) (oz553 fi_7424.2 z2.2) (oz554 fi_7424.2 z2.2))
            refine ft_go mi_k204 7 70 [(0, .ref 116), (1, .int x1), (2, .int x2), (3, .int x3)] [.int x2, .ref 118, .int 999, .int x2, .ref 118] i a14 q r (by rfl) ?_
            refine ko_iald3 mi_k204.1 (n := 31) (c := 31) (ax := (0, 0, 0, 0, 0)) (mi_k204.2 _ _ (by rfl)) (by rfl) (ksG118 _ _ _ _) (hJ14.I.2.1 118) rfl (oz3 z4.1) (oz385 fi_7424.2 z4.2) ?_
            have r15 : ((x2.toInt = 18 → (0 : Int) ≤ ((a14 118).getD x2.toNatClampNeg 0).toInt ∧ ((a14 118).getD x2.toNatClampNeg 0).toInt ≤ 5)) ∧ ((19 ≤ x2.toInt → x2.toInt ≤ 24 → (0 : Int) ≤ ((a14 118).getD x2.toNatClampNeg 0).toInt ∧ ((a14 118).getD x2.toNatClampNeg 0).toInt ≤ 7)) := kE_ncond (p := 118) hJ14.I (by decide) (j := x2) (oz3 z4.1)
            have u16 : ((a14 118).getD x2.toNatClampNeg 0).toInt = ((a 118).getD x2.toNatClampNeg 0).toInt := congrArg Int32.toInt ((congrArg (fun z : List Int32 => z.getD x2.toNatClampNeg 0) ea14).trans (kgs_ne (oz3 z4.1) (oz3 z2.1) (oz351 c6)))
            have b17 : ((-2147483648 : Int) ≤ ((a14 118).getD x2.toNatClampNeg 0).toInt) ∧ (((a14 118).getD x2.toNatClampNeg 0).toInt ≤ 2147483647) := kd_bd ((a14 118).getD x2.toNatClampNeg 0)
            refine ft_go mi_k204 2 73 [(0, .ref 116), (1, .int x1), (2, .int x2), (3, .int x3)] [.int (((a14 118).getD x2.toNatClampNeg 0) + x3), .int 999, .int x2, .ref 118] i a14 q r (by rfl) ?_
            have m19 : (((bif decide ((((a14 118).getD x2.toNatClampNeg 0) + x3) < 999) then (((a14 118).getD x2.toNatClampNeg 0) + x3) else 999).toInt ≤ (999 : Int32).toInt) ∧ ((bif decide ((((a14 118).getD x2.toNatClampNeg 0) + x3) < 999) then (((a14 118).getD x2.toNatClampNeg 0) + x3) else 999).toInt ≤ (((a14 118).getD x2.toNatClampNeg 0) + x3).toInt)) ∧ ((bif decide ((((a14 118).getD x2.toNatClampNeg 0) + x3) < 999) then (((a14 118).getD x2.toNatClampNeg 0) + x3) else 999).toInt = (999 : Int32).toInt ∨ (bif decide ((((a14 118).getD x2.toNatClampNeg 0) + x3) < 999) then (((a14 118).getD x2.toNatClampNeg 0) + x3) else 999).toInt = (((a14 118).getD x2.toNatClampNeg 0) + x3).toInt) := kd_min
            refine ft_go mi_k204 1 76 [(0, .ref 116), (1, .int x1), (2, .int x2), (3, .int x3)] [.int (bif decide ((((a14 118).getD x2.toNatClampNeg 0) + x3) < 999) then (((a14 118).getD x2.toNatClampNeg 0) + x3) else 999), .int x2, .ref 118] i a14 q r (by rfl) ?_
            generalize (bif decide ((((a14 118).getD x2.toNatClampNeg 0) + x3) < 999) then (((a14 118).getD x2.toNatClampNeg 0) + x3) else 999) = m18 at m19 ⊢
            refine ko_iast3 mi_k204.1 (n := 31) (c := 31) (ax := (0, 0, 0, 0, 0)) (mi_k204.2 _ _ (by rfl)) (by rfl) (ksG118 _ _ _ _) (ksA118 _ _ _ _) (hJ14.I.2.1 118) rfl (oz3 z4.1) (oz385 fi_7424.2 z4.2) ?_
            intro a20 ea20 fa20
            have hJ20 := kG_a3 hJ14 118 rfl ea20 fa20 (kE_nset (p := 118) (by decide) (oz3 z4.1) (oz553 fi_7424.2 z4.2) (oz554 fi_7424.2 z4.2))
            refine ft_go mi_k204 4 83 [(0, .ref 116), (1, .int x1), (2, .int x2), (3, .int x3)] [.int 4, .ref 130, .int 4, .ref 130] i a20 q r (by rfl) ?_
            refine ko_iald3 mi_k204.1 (n := 5) (c := 5) (ax := (0, 0, 0, 0, 0)) (mi_k204.2 _ _ (by rfl)) (by rfl) (ksG130 _ _ _ _) (hJ20.I.2.1 130) rfl (oz262 kn4) (oz555 kn4) ?_
            have b21 : ((-2147483648 : Int) ≤ ((a20 130).getD (4 : Int32).toNatClampNeg 0).toInt) ∧ (((a20 130).getD (4 : Int32).toNatClampNeg 0).toInt ≤ 2147483647) := kd_bd ((a20 130).getD (4 : Int32).toNatClampNeg 0)
            refine ft_go mi_k204 2 86 [(0, .ref 116), (1, .int x1), (2, .int x2), (3, .int x3)] [.int (((a20 130).getD (4 : Int32).toNatClampNeg 0) + x3), .int 4, .ref 130] i a20 q r (by rfl) ?_
            refine ko_iast3 mi_k204.1 (n := 5) (c := 5) (ax := (0, 0, 0, 0, 0)) (mi_k204.2 _ _ (by rfl)) (by rfl) (ksG130 _ _ _ _) (ksA130 _ _ _ _) (hJ20.I.2.1 130) rfl (oz262 kn4) (oz555 kn4) ?_
            intro a22 ea22 fa22
            have hJ22 := kG_a3 hJ20 130 rfl ea22 fa22 (kd_bd _)
            refine ft_go mi_k204 3 92 [(0, .ref 116), (1, .int x1), (2, .int x2), (3, .int x3)] [.int x1, .ref 118] i a22 q r (by rfl) ?_
            refine ko_iald3 mi_k204.1 (n := 31) (c := 31) (ax := (0, 0, 0, 0, 0)) (mi_k204.2 _ _ (by rfl)) (by rfl) (ksG118 _ _ _ _) (hJ22.I.2.1 118) rfl (oz3 z2.1) (oz385 fi_7424.2 z2.2) ?_
            have r23 : ((x1.toInt = 18 → (0 : Int) ≤ ((a22 118).getD x1.toNatClampNeg 0).toInt ∧ ((a22 118).getD x1.toNatClampNeg 0).toInt ≤ 5)) ∧ ((19 ≤ x1.toInt → x1.toInt ≤ 24 → (0 : Int) ≤ ((a22 118).getD x1.toNatClampNeg 0).toInt ∧ ((a22 118).getD x1.toNatClampNeg 0).toInt ≤ 7)) := kE_ncond (p := 118) hJ22.I (by decide) (j := x1) (oz3 z2.1)
            have u24 : ((a14 118).getD x1.toNatClampNeg 0).toInt = (((a 118).getD x1.toNatClampNeg 0) - x3).toInt := congrArg Int32.toInt ((congrArg (fun z : List Int32 => z.getD x1.toNatClampNeg 0) ea14).trans (kgs_eq2 (n := 31) (c := 31) (hG.I.2.1 118) rfl (oz3 z2.1) (oz385 fi_7424.2 z2.2)))
            have u25 : ((a20 118).getD x1.toNatClampNeg 0).toInt = ((a14 118).getD x1.toNatClampNeg 0).toInt := congrArg Int32.toInt ((congrArg (fun z : List Int32 => z.getD x1.toNatClampNeg 0) ea20).trans (kgs_ne (oz3 z2.1) (oz3 z4.1) (oz556 c6)))
            have u26 : ((a22 118).getD x1.toNatClampNeg 0).toInt = ((a20 118).getD x1.toNatClampNeg 0).toInt := congrArg (fun z : List Int32 => (z.getD x1.toNatClampNeg 0).toInt) (fa22 118 (by decide))
            exact ft_ret mi_k204 (by rfl) (hP ((a22 118).getD x1.toNatClampNeg 0) _ _ _ _ hJ22 trivial)
          ·
            have c27 : ((a 118).getD x1.toNatClampNeg 0).toInt < x3.toInt := kd_leF c; clear c
            refine ft_go mi_k204 1 46 [(0, .ref 116), (1, .int x1), (2, .int x2), (3, .int x3)] [.int (-5)] i a q r (by rfl) ?_
            exact ft_ret mi_k204 (by rfl) (hP (-5) _ _ _ _ hG trivial)
        ·
          subst eg7
          have z28 : ¬ (((1 : Int32).toInt ≤ x3.toInt) ∧ (x3.toInt ≤ (999 : Int32).toInt)) := hg7
          refine ft_go mi_k204 2 33 [(0, .ref 116), (1, .int x1), (2, .int x2), (3, .int x3)] [.int (-1)] i a q r (by rfl) ?_
          exact ft_ret mi_k204 (by rfl) (hP (-1) _ _ _ _ hG trivial)
    ·
      subst eg3
      have z29 : ¬ (((0 : Int) ≤ x2.toInt) ∧ (x2.toInt < (i 7424).toInt)) := hg3
      refine ft_go mi_k204 2 33 [(0, .ref 116), (1, .int x1), (2, .int x2), (3, .int x3)] [.int (-1)] i a q r (by rfl) ?_
      exact ft_ret mi_k204 (by rfl) (hP (-1) _ _ _ _ hG trivial)
  ·
    subst eg1
    have fi_7424 : ((0 : Int) ≤ (i 7424).toInt) ∧ ((i 7424).toInt ≤ 8) := hG.I.1 7424
    have z30 : ¬ (((0 : Int) ≤ x1.toInt) ∧ (x1.toInt < (i 7424).toInt)) := hg1
    refine ft_go mi_k204 2 33 [(0, .ref 116), (1, .int x1), (2, .int x2), (3, .int x3)] [.int (-1)] i a q r (by rfl) ?_
    exact ft_ret mi_k204 (by rfl) (hP (-1) _ _ _ _ hG trivial)
set_option maxRecDepth 100000 in
theorem kc205_116 {i : Nat → Int32} {a : Nat → List Int32} {q : Nat → List Int64} {r : Nat → Nat} (hI : kI i a q) (hr : kr r) (x1 : Int32) : km 3 205 [.ref 116, .int x1] (ks i a q r) (kPI (ks i a q r) (fun v => True)) := by
  have hG := kG_self kW0 hI hr
  refine km_ofPI (q := (mi_h205, mi_c205)) rfl (by decide) (Nat.le_of_ble_eq_true rfl) ?_
  intro P hP
  refine ft_go mi_k205 3 3 [(0, .ref 116), (1, .int x1)] [.int 4, .int 0, .int x1] i a q r (by rfl) ?_
  refine ko_callPI mi_k205.1 (pc := 3) (ls := [(0, .ref 116), (1, .int x1)]) (st := [.int 4, .int 0, .int x1]) (h := ks i a q r) (i := (.invokestatic 119, 3, 131, 0, 9, 0, 379)) (mi_k205.2 _ _ (by rfl)) (ft_invS mi_pq131 (by rfl)) (cy := mi_c131) mi_pq131 rfl (kc131 hG.I hG.R x1 0 4) (by decide) ?_
  intro vg1 hg1
  rcases hg1 with ⟨eg1, hg1⟩ | ⟨eg1, hg1⟩
  ·
    subst eg1
    have z2 : ((0 : Int32).toInt ≤ x1.toInt) ∧ (x1.toInt ≤ (4 : Int32).toInt) := hg1
    refine ft_go mi_k205 4 14 [(0, .ref 116), (1, .int x1)] [.int x1, .ref 130] i a q r (by rfl) ?_
    refine ko_iald3 mi_k205.1 (n := 5) (c := 5) (ax := (0, 0, 0, 0, 0)) (mi_k205.2 _ _ (by rfl)) (by rfl) (ksG130 _ _ _ _) (hG.I.2.1 130) rfl (oz389 z2.1 kn0) (oz557 z2.2 kn4) ?_
    refine ft_go mi_k205 1 19 [(0, .ref 116), (1, .int x1)] [.int ((a 130).getD x1.toNatClampNeg 0)] i a q r (by rfl) ?_
    exact ft_ret mi_k205 (by rfl) (hP ((a 130).getD x1.toNatClampNeg 0) trivial)
  ·
    subst eg1
    have z3 : ¬ (((0 : Int32).toInt ≤ x1.toInt) ∧ (x1.toInt ≤ (4 : Int32).toInt)) := hg1
    refine ft_go mi_k205 2 19 [(0, .ref 116), (1, .int x1)] [.int (-1)] i a q r (by rfl) ?_
    exact ft_ret mi_k205 (by rfl) (hP (-1) trivial)
def w168_116_131 : kW := ([], [131], [], [])
def w168_116_131_L2 : kW := ([], [131], [], [])
set_option maxRecDepth 100000 in
theorem kc168_116_131 {i : Nat → Int32} {a : Nat → List Int32} {q : Nat → List Int64} {r : Nat → Nat} (hI : kI i a q) (hr : kr r) (x2 : Int32) (hp0 : x2.toInt = 0) : km 1 168 [.ref 116, .ref 131, .int x2] (ks i a q r) (kVN w168_116_131 i a q r (fun i1 a1 q1 r1 => True)) := by
  have hG := kG_self w168_116_131 hI hr
  refine km_ofN (q := (mi_h168, mi_c168)) rfl (by decide) (Nat.le_of_ble_eq_true rfl) ?_
  intro P hP
  refine ft_go mi_k168 2 2 [(3, .int 0), (0, .ref 116), (1, .ref 131), (2, .int x2)] [] i a q r (by rfl) ?_
  have lp1 : ∀ (nz : Nat) (i1 : Nat → Int32) (a1 : Nat → List Int32) (q1 : Nat → List Int64) (r1 : Nat → Nat) (l3_1 : Int32), kG w168_116_131_L2 i a q r i1 a1 q1 r1 → (0 : Int) ≤ l3_1.toInt → ((31 - l3_1.toInt)).toNat < nz → ko 1 (mi_h168, mi_c168) P (2, [(3, .int l3_1), (0, .ref 116), (1, .ref 131), (2, .int x2)], [], (0, 0), ks i1 a1 q1 r1) := by
    intro nz
    induction nz with
    | zero =>
      intro _ _ _ _ _ _ _ hm
      exact absurd hm (Nat.not_lt_zero _)
    | succ nz ih1 =>
      intro i1 a1 q1 r1 l3_1 hL1 p1_0 hm1
      refine ft_go mi_k168 2 5 [(3, .int l3_1), (0, .ref 116), (1, .ref 131), (2, .int x2)] [.int 31, .int l3_1] i1 a1 q1 r1 (by rfl) ?_
      refine ft_if mi_k168 (decide (31 ≤ l3_1)) 25 8 [(3, .int l3_1), (0, .ref 116), (1, .ref 131), (2, .int x2)] [] (by rfl) (fun c => ?_) (fun c => ?_)
      ·
        have c2 : (31 : Int32).toInt ≤ l3_1.toInt := kd_le c; clear c
        have hG3 := kG_call hG hL1 (by decide +kernel)
        exact ft_ret mi_k168 (by rfl) (hP  _ _ _ _ hG3 trivial)
      ·
        have c4 : l3_1.toInt < (31 : Int32).toInt := kd_leF c; clear c
        have s5 : (x2 + l3_1).toInt = x2.toInt + l3_1.toInt := kd_add (oz226 hp0 p1_0) (oz227 c4 hp0 kn31)
        refine ft_go mi_k168 7 17 [(3, .int l3_1), (0, .ref 116), (1, .ref 131), (2, .int x2)] [.int l3_1, .ref 118, .int (x2 + l3_1), .ref 131] i1 a1 q1 r1 (by rfl) ?_
        refine ko_iald3 mi_k168.1 (n := 31) (c := 31) (ax := (0, 0, 0, 0, 0)) (mi_k168.2 _ _ (by rfl)) (by rfl) (ksG118 _ _ _ _) (hL1.I.2.1 118) rfl (oz3 p1_0) (oz228 c4 kn31) ?_
        have r6 : ((l3_1.toInt = 18 → (0 : Int) ≤ ((a1 118).getD l3_1.toNatClampNeg 0).toInt ∧ ((a1 118).getD l3_1.toNatClampNeg 0).toInt ≤ 5)) ∧ ((19 ≤ l3_1.toInt → l3_1.toInt ≤ 24 → (0 : Int) ≤ ((a1 118).getD l3_1.toNatClampNeg 0).toInt ∧ ((a1 118).getD l3_1.toNatClampNeg 0).toInt ≤ 7)) := kE_ncond (p := 118) hL1.I (by decide) (j := l3_1) (oz3 p1_0)
        have u7 : ((a1 118).getD l3_1.toNatClampNeg 0).toInt = ((a 118).getD l3_1.toNatClampNeg 0).toInt := congrArg (fun z : List Int32 => (z.getD l3_1.toNatClampNeg 0).toInt) (hL1.fa 118 rfl)
        refine ko_iast3 mi_k168.1 (n := 31) (c := 31) (ax := (0, 0, 0, 0, 0)) (mi_k168.2 _ _ (by rfl)) (by rfl) (ksG131 _ _ _ _) (ksA131 _ _ _ _) (hL1.I.2.1 131) rfl (oz229 hp0 p1_0 s5) (oz230 c4 hp0 s5 kn31) ?_
        intro a8 ea8 fa8
        have hJ8 := kG_a3 hL1 131 rfl ea8 fa8 (kE_nset (p := 131) (by decide) (oz229 hp0 p1_0 s5) (oz231 hp0 r6.1 s5) (oz232 hp0 r6.2 s5))
        have s9 : (l3_1 + 1).toInt = l3_1.toInt + (1 : Int32).toInt := kd_add (oz12 p1_0 kn1) (oz233 c4 kn31 kn1)
        refine ft_go mi_k168 2 2 [(3, .int (l3_1 + 1)), (0, .ref 116), (1, .ref 131), (2, .int x2)] [] i1 a8 q1 r1 (by rfl) ?_
        exact ih1 _ _ _ _ _ hJ8 (oz14 p1_0 s9 kn1) (kj_meas (oz234 s9 kn1) (oz235 c4 kn31) hm1)
  exact lp1 _ _ _ _ _ _ (kG_self _ hG.I hG.R) (oz46 kn0) (Nat.lt_succ_self _)


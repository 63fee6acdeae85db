
-- the law's cases 8 to 14
section VLC1
variable {l : Launch} {D : va_G} {cy : CY} {B n b L : Nat} {xs : Nat → Int32} {h : Hp} {lg : Lg} {π : Nat → Nat} {σ : Sg}
theorem case8 {i : Nat} (hi : i + 4 ≤ L) (hL : L ≤ 256) (X : XI h π σ) (M : MI h σ) (K : ∀ π h lg σ, XI h π σ → MI h σ → WP l D cy B cL_law 4 RL wsL_law room_1 ret lw_Z (EXL B b L xs) 105 (rf0 π) h lg 105 2207 871 [some (.ref b), some (.ref (B + 0)), some (.ref (B + 89)), some (.int (nI (i)))] []) : WP l D cy B cL_law 4 RL wsL_law room_1 ret lw_Z (EXL B b L xs) 105 (rf0 π) h lg 105 2207 358 [some (.ref b), some (.ref (B + 0)), some (.ref (B + 89)), some (.int (nI (i)))] [] := by
  refine wp_aload_n_1 (pc' := 359) dL_law_358 rfl ?_
  refine wp_aload_n_0 (pc' := 360) dL_law_359 rfl ?_
  refine wp_iload_n_3 (pc' := 361) dL_law_360 rfl ?_
  refine wp_iconst (pc' := 362) (1) dL_law_361 rfl (by decide) ?_
  refine wp_iadd (pc' := 363) dL_law_362 rfl ?_
  rw [nI_1]
  refine wp_sld (pc' := 364) (fun _ _ _ q => q.2.2) (vp_in_nI (by omega) (by omega)) dL_law_363 rfl ?_
  rw [nI_clamp (by omega)]
  refine wp_aload_n_0 (pc' := 365) dL_law_364 rfl ?_
  refine wp_iload_n_3 (pc' := 366) dL_law_365 rfl ?_
  refine wp_iconst (pc' := 367) (2) dL_law_366 rfl (by decide) ?_
  refine wp_iadd (pc' := 368) dL_law_367 rfl ?_
  rw [show (2 : Int32) = nI 2 from rfl, nI_add]
  refine wp_sld (pc' := 369) (fun _ _ _ q => q.2.2) (vp_in_nI (by omega) (by omega)) dL_law_368 rfl ?_
  rw [nI_clamp (by omega)]
  refine wp_callVX (pc' := 372) (c_X7_tell (by omega) X (xs (i + 1)) (xs (i + 2))) gL_law_X7_tell rfl rfl hy_X7_tell ⟨Nat.le_of_ble_eq_true rfl, Nat.le_of_ble_eq_true rfl⟩ ⟨rfl, rfl⟩ (Nat.le_of_ble_eq_true rfl) ⟨Nat.le_of_ble_eq_true rfl, Nat.le_of_ble_eq_true rfl⟩ (by omega) (ce7 rfl) rfl rfl dL_law_369 rfl (fun π369 h369 X369 f369 => ?_)
  refine wp_aload_n_2 (pc' := 373) dL_law_372 rfl ?_
  refine wp_aload_n_0 (pc' := 374) dL_law_373 rfl ?_
  refine wp_iload_n_3 (pc' := 375) dL_law_374 rfl ?_
  refine wp_iconst (pc' := 376) (1) dL_law_375 rfl (by decide) ?_
  refine wp_iadd (pc' := 377) dL_law_376 rfl ?_
  rw [nI_1]
  refine wp_sld (pc' := 378) (fun _ _ _ q => q.2.2) (vp_in_nI (by omega) (by omega)) dL_law_377 rfl ?_
  rw [nI_clamp (by omega)]
  refine wp_aload_n_0 (pc' := 379) dL_law_378 rfl ?_
  refine wp_iload_n_3 (pc' := 380) dL_law_379 rfl ?_
  refine wp_iconst (pc' := 381) (2) dL_law_380 rfl (by decide) ?_
  refine wp_iadd (pc' := 382) dL_law_381 rfl ?_
  rw [show (2 : Int32) = nI 2 from rfl, nI_add]
  refine wp_sld (pc' := 383) (fun _ _ _ q => q.2.2) (vp_in_nI (by omega) (by omega)) dL_law_382 rfl ?_
  rw [nI_clamp (by omega)]
  refine wp_callVZ (pc' := 386) (c_X8_tell (by omega) (M.up f369) (xs (i + 1)) (xs (i + 2))) gL_law_X8_tell rfl rfl hy_X8_tell ⟨Nat.le_of_ble_eq_true rfl, Nat.le_of_ble_eq_true rfl⟩ ⟨rfl, rfl⟩ (Nat.le_of_ble_eq_true rfl) ⟨Nat.le_of_ble_eq_true rfl, Nat.le_of_ble_eq_true rfl⟩ (by omega) (ce8 rfl) rfl rfl dL_law_383 rfl (fun h383 l383 M383 f383 => ?_)
  refine wp_icmp_eq (pc' := 389) (tgt := 871) dL_law_386 rfl rfl (fun c386 => ?_) (fun c386 => by exfalso; exact c386 rfl)
  exact K _ _ _ _ (X369.lo f383) M383
theorem case9 {i : Nat} (hi : i + 4 ≤ L) (hL : L ≤ 256) (X : XI h π σ) (M : MI h σ) (K : ∀ π h lg σ, XI h π σ → MI h σ → WP l D cy B cL_law 4 RL wsL_law room_1 ret lw_Z (EXL B b L xs) 105 (rf0 π) h lg 105 2207 871 [some (.ref b), some (.ref (B + 0)), some (.ref (B + 89)), some (.int (nI (i)))] []) : WP l D cy B cL_law 4 RL wsL_law room_1 ret lw_Z (EXL B b L xs) 105 (rf0 π) h lg 105 2207 391 [some (.ref b), some (.ref (B + 0)), some (.ref (B + 89)), some (.int (nI (i)))] [] := by
  refine wp_aload_n_1 (pc' := 392) dL_law_391 rfl ?_
  refine wp_aload_n_0 (pc' := 393) dL_law_392 rfl ?_
  refine wp_iload_n_3 (pc' := 394) dL_law_393 rfl ?_
  refine wp_iconst (pc' := 395) (1) dL_law_394 rfl (by decide) ?_
  refine wp_iadd (pc' := 396) dL_law_395 rfl ?_
  rw [nI_1]
  refine wp_sld (pc' := 397) (fun _ _ _ q => q.2.2) (vp_in_nI (by omega) (by omega)) dL_law_396 rfl ?_
  rw [nI_clamp (by omega)]
  refine wp_callVX (pc' := 400) (c_X7_strike (by omega) X (xs (i + 1))) gL_law_X7_strike rfl rfl hy_X7_strike ⟨Nat.le_of_ble_eq_true rfl, Nat.le_of_ble_eq_true rfl⟩ ⟨rfl, rfl⟩ (Nat.le_of_ble_eq_true rfl) ⟨Nat.le_of_ble_eq_true rfl, Nat.le_of_ble_eq_true rfl⟩ (by omega) (ce7 rfl) rfl rfl dL_law_397 rfl (fun π397 h397 X397 f397 => ?_)
  refine wp_aload_n_2 (pc' := 401) dL_law_400 rfl ?_
  refine wp_aload_n_0 (pc' := 402) dL_law_401 rfl ?_
  refine wp_iload_n_3 (pc' := 403) dL_law_402 rfl ?_
  refine wp_iconst (pc' := 404) (1) dL_law_403 rfl (by decide) ?_
  refine wp_iadd (pc' := 405) dL_law_404 rfl ?_
  rw [nI_1]
  refine wp_sld (pc' := 406) (fun _ _ _ q => q.2.2) (vp_in_nI (by omega) (by omega)) dL_law_405 rfl ?_
  rw [nI_clamp (by omega)]
  refine wp_callVZ (pc' := 409) (c_X8_strike (by omega) (M.up f397) (xs (i + 1))) gL_law_X8_strike rfl rfl hy_X8_strike ⟨Nat.le_of_ble_eq_true rfl, Nat.le_of_ble_eq_true rfl⟩ ⟨rfl, rfl⟩ (Nat.le_of_ble_eq_true rfl) ⟨Nat.le_of_ble_eq_true rfl, Nat.le_of_ble_eq_true rfl⟩ (by omega) (ce8 rfl) rfl rfl dL_law_406 rfl (fun h406 l406 M406 f406 => ?_)
  refine wp_icmp_eq (pc' := 412) (tgt := 871) dL_law_409 rfl rfl (fun c409 => ?_) (fun c409 => by exfalso; exact c409 rfl)
  exact K _ _ _ _ (X397.lo f406) M406
theorem case10 {i : Nat} (hi : i + 4 ≤ L) (hL : L ≤ 256) (X : XI h π σ) (M : MI h σ) (K : ∀ π h lg σ, XI h π σ → MI h σ → WP l D cy B cL_law 4 RL wsL_law room_1 ret lw_Z (EXL B b L xs) 105 (rf0 π) h lg 105 2207 871 [some (.ref b), some (.ref (B + 0)), some (.ref (B + 89)), some (.int (nI (i)))] []) : WP l D cy B cL_law 4 RL wsL_law room_1 ret lw_Z (EXL B b L xs) 105 (rf0 π) h lg 105 2207 414 [some (.ref b), some (.ref (B + 0)), some (.ref (B + 89)), some (.int (nI (i)))] [] := by
  refine wp_aload_n_1 (pc' := 415) dL_law_414 rfl ?_
  refine wp_callVX (pc' := 418) (c_X7_undo (by omega) X ) gL_law_X7_undo rfl rfl hy_X7_undo ⟨Nat.le_of_ble_eq_true rfl, Nat.le_of_ble_eq_true rfl⟩ ⟨rfl, rfl⟩ (Nat.le_of_ble_eq_true rfl) ⟨Nat.le_of_ble_eq_true rfl, Nat.le_of_ble_eq_true rfl⟩ (by omega) (ce7 rfl) rfl rfl dL_law_415 rfl (fun π415 h415 X415 f415 => ?_)
  refine wp_aload_n_2 (pc' := 419) dL_law_418 rfl ?_
  refine wp_callVZ (pc' := 422) (c_X8_undo (by omega) (M.up f415) ) gL_law_X8_undo rfl rfl hy_X8_undo ⟨Nat.le_of_ble_eq_true rfl, Nat.le_of_ble_eq_true rfl⟩ ⟨rfl, rfl⟩ (Nat.le_of_ble_eq_true rfl) ⟨Nat.le_of_ble_eq_true rfl, Nat.le_of_ble_eq_true rfl⟩ (by omega) (ce8 rfl) rfl rfl dL_law_419 rfl (fun h419 l419 M419 f419 => ?_)
  refine wp_icmp_eq (pc' := 425) (tgt := 871) dL_law_422 rfl rfl (fun c422 => ?_) (fun c422 => by exfalso; exact c422 rfl)
  exact K _ _ _ _ (X415.lo f419) M419
theorem case11 {i : Nat} (hi : i + 4 ≤ L) (hL : L ≤ 256) (X : XI h π σ) (M : MI h σ) (K : ∀ π h lg σ, XI h π σ → MI h σ → WP l D cy B cL_law 4 RL wsL_law room_1 ret lw_Z (EXL B b L xs) 105 (rf0 π) h lg 105 2207 871 [some (.ref b), some (.ref (B + 0)), some (.ref (B + 89)), some (.int (nI (i)))] []) : WP l D cy B cL_law 4 RL wsL_law room_1 ret lw_Z (EXL B b L xs) 105 (rf0 π) h lg 105 2207 427 [some (.ref b), some (.ref (B + 0)), some (.ref (B + 89)), some (.int (nI (i)))] [] := by
  refine wp_aload_n_1 (pc' := 428) dL_law_427 rfl ?_
  refine wp_aload_n_0 (pc' := 429) dL_law_428 rfl ?_
  refine wp_iload_n_3 (pc' := 430) dL_law_429 rfl ?_
  refine wp_iconst (pc' := 431) (1) dL_law_430 rfl (by decide) ?_
  refine wp_iadd (pc' := 432) dL_law_431 rfl ?_
  rw [nI_1]
  refine wp_sld (pc' := 433) (fun _ _ _ q => q.2.2) (vp_in_nI (by omega) (by omega)) dL_law_432 rfl ?_
  rw [nI_clamp (by omega)]
  refine wp_callVX (pc' := 436) (c_X7_ways (by omega) X (xs (i + 1))) gL_law_X7_ways rfl rfl hy_X7_ways ⟨Nat.le_of_ble_eq_true rfl, Nat.le_of_ble_eq_true rfl⟩ ⟨rfl, rfl⟩ (Nat.le_of_ble_eq_true rfl) ⟨Nat.le_of_ble_eq_true rfl, Nat.le_of_ble_eq_true rfl⟩ (by omega) (ce7 rfl) rfl rfl dL_law_433 rfl (fun π433 h433 X433 f433 => ?_)
  refine wp_aload_n_2 (pc' := 437) dL_law_436 rfl ?_
  refine wp_aload_n_0 (pc' := 438) dL_law_437 rfl ?_
  refine wp_iload_n_3 (pc' := 439) dL_law_438 rfl ?_
  refine wp_iconst (pc' := 440) (1) dL_law_439 rfl (by decide) ?_
  refine wp_iadd (pc' := 441) dL_law_440 rfl ?_
  rw [nI_1]
  refine wp_sld (pc' := 442) (fun _ _ _ q => q.2.2) (vp_in_nI (by omega) (by omega)) dL_law_441 rfl ?_
  rw [nI_clamp (by omega)]
  refine wp_callVZ (pc' := 445) (c_X8_ways (by omega) (M.up f433) (xs (i + 1))) gL_law_X8_ways rfl rfl hy_X8_ways ⟨Nat.le_of_ble_eq_true rfl, Nat.le_of_ble_eq_true rfl⟩ ⟨rfl, rfl⟩ (Nat.le_of_ble_eq_true rfl) ⟨Nat.le_of_ble_eq_true rfl, Nat.le_of_ble_eq_true rfl⟩ (by omega) (ce8 rfl) rfl rfl dL_law_442 rfl (fun h442 l442 M442 f442 => ?_)
  refine wp_icmp_eq (pc' := 448) (tgt := 871) dL_law_445 rfl rfl (fun c445 => ?_) (fun c445 => by exfalso; exact c445 rfl)
  exact K _ _ _ _ (X433.lo f442) M442
theorem case12 {i : Nat} (hi : i + 4 ≤ L) (hL : L ≤ 256) (X : XI h π σ) (M : MI h σ) (K : ∀ π h lg σ, XI h π σ → MI h σ → WP l D cy B cL_law 4 RL wsL_law room_1 ret lw_Z (EXL B b L xs) 105 (rf0 π) h lg 105 2207 871 [some (.ref b), some (.ref (B + 0)), some (.ref (B + 89)), some (.int (nI (i)))] []) : WP l D cy B cL_law 4 RL wsL_law room_1 ret lw_Z (EXL B b L xs) 105 (rf0 π) h lg 105 2207 450 [some (.ref b), some (.ref (B + 0)), some (.ref (B + 89)), some (.int (nI (i)))] [] := by
  refine wp_aload_n_1 (pc' := 451) dL_law_450 rfl ?_
  refine wp_aload_n_0 (pc' := 452) dL_law_451 rfl ?_
  refine wp_iload_n_3 (pc' := 453) dL_law_452 rfl ?_
  refine wp_iconst (pc' := 454) (1) dL_law_453 rfl (by decide) ?_
  refine wp_iadd (pc' := 455) dL_law_454 rfl ?_
  rw [nI_1]
  refine wp_sld (pc' := 456) (fun _ _ _ q => q.2.2) (vp_in_nI (by omega) (by omega)) dL_law_455 rfl ?_
  rw [nI_clamp (by omega)]
  refine wp_aload_n_0 (pc' := 457) dL_law_456 rfl ?_
  refine wp_iload_n_3 (pc' := 458) dL_law_457 rfl ?_
  refine wp_iconst (pc' := 459) (2) dL_law_458 rfl (by decide) ?_
  refine wp_iadd (pc' := 460) dL_law_459 rfl ?_
  rw [show (2 : Int32) = nI 2 from rfl, nI_add]
  refine wp_sld (pc' := 461) (fun _ _ _ q => q.2.2) (vp_in_nI (by omega) (by omega)) dL_law_460 rfl ?_
  rw [nI_clamp (by omega)]
  refine wp_callVX (pc' := 464) (c_X7_first (by omega) X (xs (i + 1)) (xs (i + 2))) gL_law_X7_first rfl rfl hy_X7_first ⟨Nat.le_of_ble_eq_true rfl, Nat.le_of_ble_eq_true rfl⟩ ⟨rfl, rfl⟩ (Nat.le_of_ble_eq_true rfl) ⟨Nat.le_of_ble_eq_true rfl, Nat.le_of_ble_eq_true rfl⟩ (by omega) (ce7 rfl) rfl rfl dL_law_461 rfl (fun π461 h461 X461 f461 => ?_)
  refine wp_aload_n_2 (pc' := 465) dL_law_464 rfl ?_
  refine wp_aload_n_0 (pc' := 466) dL_law_465 rfl ?_
  refine wp_iload_n_3 (pc' := 467) dL_law_466 rfl ?_
  refine wp_iconst (pc' := 468) (1) dL_law_467 rfl (by decide) ?_
  refine wp_iadd (pc' := 469) dL_law_468 rfl ?_
  rw [nI_1]
  refine wp_sld (pc' := 470) (fun _ _ _ q => q.2.2) (vp_in_nI (by omega) (by omega)) dL_law_469 rfl ?_
  rw [nI_clamp (by omega)]
  refine wp_aload_n_0 (pc' := 471) dL_law_470 rfl ?_
  refine wp_iload_n_3 (pc' := 472) dL_law_471 rfl ?_
  refine wp_iconst (pc' := 473) (2) dL_law_472 rfl (by decide) ?_
  refine wp_iadd (pc' := 474) dL_law_473 rfl ?_
  rw [show (2 : Int32) = nI 2 from rfl, nI_add]
  refine wp_sld (pc' := 475) (fun _ _ _ q => q.2.2) (vp_in_nI (by omega) (by omega)) dL_law_474 rfl ?_
  rw [nI_clamp (by omega)]
  refine wp_callVZ (pc' := 478) (c_X8_first (by omega) (M.up f461) (xs (i + 1)) (xs (i + 2))) gL_law_X8_first rfl rfl hy_X8_first ⟨Nat.le_of_ble_eq_true rfl, Nat.le_of_ble_eq_true rfl⟩ ⟨rfl, rfl⟩ (Nat.le_of_ble_eq_true rfl) ⟨Nat.le_of_ble_eq_true rfl, Nat.le_of_ble_eq_true rfl⟩ (by omega) (ce8 rfl) rfl rfl dL_law_475 rfl (fun h475 l475 M475 f475 => ?_)
  refine wp_icmp_eq (pc' := 481) (tgt := 871) dL_law_478 rfl rfl (fun c478 => ?_) (fun c478 => by exfalso; exact c478 rfl)
  exact K _ _ _ _ (X461.lo f475) M475
theorem case13 {i : Nat} (hi : i + 4 ≤ L) (hL : L ≤ 256) (X : XI h π σ) (M : MI h σ) (K : ∀ π h lg σ, XI h π σ → MI h σ → WP l D cy B cL_law 4 RL wsL_law room_1 ret lw_Z (EXL B b L xs) 105 (rf0 π) h lg 105 2207 871 [some (.ref b), some (.ref (B + 0)), some (.ref (B + 89)), some (.int (nI (i)))] []) : WP l D cy B cL_law 4 RL wsL_law room_1 ret lw_Z (EXL B b L xs) 105 (rf0 π) h lg 105 2207 483 [some (.ref b), some (.ref (B + 0)), some (.ref (B + 89)), some (.int (nI (i)))] [] := by
  refine wp_aload_n_1 (pc' := 484) dL_law_483 rfl ?_
  refine wp_aload_n_0 (pc' := 485) dL_law_484 rfl ?_
  refine wp_iload_n_3 (pc' := 486) dL_law_485 rfl ?_
  refine wp_iconst (pc' := 487) (1) dL_law_486 rfl (by decide) ?_
  refine wp_iadd (pc' := 488) dL_law_487 rfl ?_
  rw [nI_1]
  refine wp_sld (pc' := 489) (fun _ _ _ q => q.2.2) (vp_in_nI (by omega) (by omega)) dL_law_488 rfl ?_
  rw [nI_clamp (by omega)]
  refine wp_callVX (pc' := 492) (c_X7_ends (by omega) X (xs (i + 1))) gL_law_X7_ends rfl rfl hy_X7_ends ⟨Nat.le_of_ble_eq_true rfl, Nat.le_of_ble_eq_true rfl⟩ ⟨rfl, rfl⟩ (Nat.le_of_ble_eq_true rfl) ⟨Nat.le_of_ble_eq_true rfl, Nat.le_of_ble_eq_true rfl⟩ (by omega) (ce7 rfl) rfl rfl dL_law_489 rfl (fun π489 h489 X489 f489 => ?_)
  refine wp_aload_n_2 (pc' := 493) dL_law_492 rfl ?_
  refine wp_aload_n_0 (pc' := 494) dL_law_493 rfl ?_
  refine wp_iload_n_3 (pc' := 495) dL_law_494 rfl ?_
  refine wp_iconst (pc' := 496) (1) dL_law_495 rfl (by decide) ?_
  refine wp_iadd (pc' := 497) dL_law_496 rfl ?_
  rw [nI_1]
  refine wp_sld (pc' := 498) (fun _ _ _ q => q.2.2) (vp_in_nI (by omega) (by omega)) dL_law_497 rfl ?_
  rw [nI_clamp (by omega)]
  refine wp_callVZ (pc' := 501) (c_X8_ends (by omega) (M.up f489) (xs (i + 1))) gL_law_X8_ends rfl rfl hy_X8_ends ⟨Nat.le_of_ble_eq_true rfl, Nat.le_of_ble_eq_true rfl⟩ ⟨rfl, rfl⟩ (Nat.le_of_ble_eq_true rfl) ⟨Nat.le_of_ble_eq_true rfl, Nat.le_of_ble_eq_true rfl⟩ (by omega) (ce8 rfl) rfl rfl dL_law_498 rfl (fun h498 l498 M498 f498 => ?_)
  refine wp_icmp_eq (pc' := 504) (tgt := 871) dL_law_501 rfl rfl (fun c501 => ?_) (fun c501 => by exfalso; exact c501 rfl)
  exact K _ _ _ _ (X489.lo f498) M498
theorem case14 {i : Nat} (hi : i + 4 ≤ L) (hL : L ≤ 256) (X : XI h π σ) (M : MI h σ) (K : ∀ π h lg σ, XI h π σ → MI h σ → WP l D cy B cL_law 4 RL wsL_law room_1 ret lw_Z (EXL B b L xs) 105 (rf0 π) h lg 105 2207 871 [some (.ref b), some (.ref (B + 0)), some (.ref (B + 89)), some (.int (nI (i)))] []) : WP l D cy B cL_law 4 RL wsL_law room_1 ret lw_Z (EXL B b L xs) 105 (rf0 π) h lg 105 2207 506 [some (.ref b), some (.ref (B + 0)), some (.ref (B + 89)), some (.int (nI (i)))] [] := by
  refine wp_aload_n_1 (pc' := 507) dL_law_506 rfl ?_
  refine wp_callVX (pc' := 510) (c_X7_lied (by omega) X ) gL_law_X7_lied rfl rfl hy_X7_lied ⟨Nat.le_of_ble_eq_true rfl, Nat.le_of_ble_eq_true rfl⟩ ⟨rfl, rfl⟩ (Nat.le_of_ble_eq_true rfl) ⟨Nat.le_of_ble_eq_true rfl, Nat.le_of_ble_eq_true rfl⟩ (by omega) (ce7 rfl) rfl rfl dL_law_507 rfl (fun π507 h507 X507 f507 => ?_)
  refine wp_aload_n_2 (pc' := 511) dL_law_510 rfl ?_
  refine wp_callVZ (pc' := 514) (c_X8_lied (by omega) (M.up f507) ) gL_law_X8_lied rfl rfl hy_X8_lied ⟨Nat.le_of_ble_eq_true rfl, Nat.le_of_ble_eq_true rfl⟩ ⟨rfl, rfl⟩ (Nat.le_of_ble_eq_true rfl) ⟨Nat.le_of_ble_eq_true rfl, Nat.le_of_ble_eq_true rfl⟩ (by omega) (ce8 rfl) rfl rfl dL_law_511 rfl (fun h511 l511 M511 f511 => ?_)
  refine wp_icmp_eq (pc' := 517) (tgt := 871) dL_law_514 rfl rfl (fun c514 => ?_) (fun c514 => by exfalso; exact c514 rfl)
  exact K _ _ _ _ (X507.lo f511) M511
end VLC1


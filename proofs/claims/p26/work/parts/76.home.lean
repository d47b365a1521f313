/-! THE NEW OBJECT, SEEN AS THE CLASS'S BLOCK -/
section
variable {l : Launch} {Γ : zk_G} {d : Nat} {Z : Nat → Nat → Int} {F : Heap → Prop}
/-- the class's numbers, when the object is new -/
def zH_Z (a j : Nat) : Int := match a / 16 with
  | 20 => match a % 16 with
    | 0 => (match j with | 5 => 400 | 6 => -1 | _ => 0)
    | 4 => (-1)
    | 7 => (match j with | 4 => 400 | _ => 0)
    | _ => 0
  | 21 => match a % 16 with
    | 0 => (match j with | 0 => 368 | 2 => -1 | _ => 0)
    | _ => 0
  | 22 => match a % 16 with
    | 0 => (match j with | 0 => 368 | 2 => -1 | _ => 0)
    | _ => 0
  | _ => 0

/-- where the block's cells lie then -/
def zH_i (a : Nat) : Nat := if a < 320 then a else match a / 16 with
  | 20 => match a % 16 with
    | 0 => 320
    | 1 => 321
    | 2 => 322
    | 3 => 323
    | 4 => 324
    | 5 => 325
    | 6 => 326
    | 7 => 395
    | 8 => 396
    | 9 => 397
    | 10 => 398
    | _ => 320
  | 21 => match a % 16 with
    | 0 => 369
    | 1 => 370
    | 2 => 371
    | 3 => 372
    | 4 => 373
    | 5 => 374
    | 6 => 375
    | 7 => 376
    | 8 => 377
    | 9 => 378
    | 10 => 379
    | 11 => 380
    | 12 => 381
    | _ => 320
  | 22 => match a % 16 with
    | 0 => 382
    | 1 => 383
    | 2 => 384
    | 3 => 385
    | 4 => 386
    | 5 => 387
    | 6 => 388
    | 7 => 389
    | 8 => 390
    | 9 => 391
    | 10 => 392
    | 11 => 393
    | 12 => 394
    | _ => 320
  | 23 => match a % 16 with
    | 0 => 348
    | 1 => 349
    | 2 => 350
    | 3 => 351
    | 4 => 352
    | 5 => 353
    | 6 => 354
    | 7 => 355
    | 8 => 356
    | 9 => 357
    | 10 => 358
    | 11 => 365
    | 12 => 366
    | 13 => 367
    | 14 => 368
    | 15 => 359
    | _ => 320
  | 24 => match a % 16 with
    | 0 => 360
    | 1 => 361
    | 2 => 362
    | 3 => 363
    | 4 => 364
    | _ => 320
  | 25 => match a % 16 with
    | 0 => 327
    | 1 => 328
    | 2 => 329
    | 3 => 330
    | 4 => 331
    | 5 => 332
    | 6 => 333
    | 7 => 334
    | 8 => 335
    | 9 => 336
    | 10 => 337
    | 11 => 344
    | 12 => 345
    | 13 => 346
    | 14 => 347
    | 15 => 338
    | _ => 320
  | 26 => match a % 16 with
    | 0 => 339
    | 1 => 340
    | 2 => 341
    | 3 => 342
    | 4 => 343
    | _ => 320
  | _ => 320

def zH_l : List ((Nat × Nat) × (Nat → Value)) := [((0, 7), X7_init_f 1)] ++ X7_init_t 1
theorem zH_n : (zm zH_l).2.1 = 399 := by
  show 320 + (zH_l).length = 399
  unfold zH_l
  rw [List.length_append, X7_init_tl]
  rfl
def zH_a : List Nat := [320, 321, 322, 323, 324, 325, 326, 327, 328, 329, 330, 336, 337, 338, 339, 340, 341, 342, 343, 344, 345, 346, 347, 348, 352, 353, 354, 355, 356, 357, 358, 359, 360, 361, 362, 363, 364, 368, 369, 370, 371, 372, 373, 374, 375, 376, 377, 378, 379, 380, 381, 382, 383, 384, 385, 386, 387, 388, 400, 401, 402, 403, 404, 405, 406, 407, 408, 409, 410, 411, 412, 413, 414, 415, 416, 417, 418, 419, 420]
theorem zH_live : ∀ a, a < 424 → 320 ≤ a → (zb_s a).1 < 1000 → a ∈ zH_a := by decide +kernel
theorem zH_s : ∀ a, a ∈ zH_a → (zm zH_l).1 (zH_i a) = zb_s a := by decide +kernel
theorem zH_b : ∀ a, a < 424 → zH_i a < 399 ∧ (320 ≤ a → 320 ≤ zH_i a) := by decide +kernel
theorem zH_inj : ∀ a, a ∈ zH_a → ∀ b, b ∈ zH_a → zH_i a = zH_i b → a = b := by decide +kernel
theorem zo_ok0 : ((List.range 320).all fun a => (List.range (zo_s a).2).all fun j => match zo_v a j with | .ref x => decide (x < 320) | _ => true) = true := by decide +kernel
theorem zo_r {a j x : Nat} (ha : a < 320) (hj : j < (zo_s a).2) (h : zo_v a j = .ref x) : x < 320 := by
  have q := List.all_eq_true.mp (List.all_eq_true.mp zo_ok0 a (List.mem_range.mpr ha)) j (List.mem_range.mpr hj)
  rw [h] at q
  exact of_decide_eq_true q
theorem zH_320 : ∀ j, j < (zb_s 320).2 → (zm zH_l).2.2 (zH_i 320) j = zk_v zH_i (zb_v zH_Z 320 j) := fun j hj => match j, hj with
  | 0, _ => rfl
  | 1, _ => rfl
  | 2, _ => rfl
  | 3, _ => rfl
  | 4, _ => rfl
  | 5, _ => rfl
  | 6, _ => rfl
  | _ + 7, h => absurd (show _ + 7 < 7 from h) (by omega)
theorem zH_321 : ∀ j, j < (zb_s 321).2 → (zm zH_l).2.2 (zH_i 321) j = zk_v zH_i (zb_v zH_Z 321 j) := fun j hj => match j, hj with
  | 0, _ => rfl
  | 1, _ => rfl
  | _ + 2, h => absurd (show _ + 2 < 2 from h) (by omega)
theorem zH_322 : ∀ j, j < (zb_s 322).2 → (zm zH_l).2.2 (zH_i 322) j = zk_v zH_i (zb_v zH_Z 322 j) := fun _ _ => rfl
theorem zH_323 : ∀ j, j < (zb_s 323).2 → (zm zH_l).2.2 (zH_i 323) j = zk_v zH_i (zb_v zH_Z 323 j) := fun j hj => match j, hj with
  | 0, _ => rfl
  | 1, _ => rfl
  | 2, _ => rfl
  | 3, _ => rfl
  | 4, _ => rfl
  | 5, _ => rfl
  | 6, _ => rfl
  | _ + 7, h => absurd (show _ + 7 < 7 from h) (by omega)
theorem zH_324 : ∀ j, j < (zb_s 324).2 → (zm zH_l).2.2 (zH_i 324) j = zk_v zH_i (zb_v zH_Z 324 j) := fun _ _ => rfl
theorem zH_325 : ∀ j, j < (zb_s 325).2 → (zm zH_l).2.2 (zH_i 325) j = zk_v zH_i (zb_v zH_Z 325 j) := fun _ _ => rfl
theorem zH_326 : ∀ j, j < (zb_s 326).2 → (zm zH_l).2.2 (zH_i 326) j = zk_v zH_i (zb_v zH_Z 326 j) := fun _ _ => rfl
theorem zH_327 : ∀ j, j < (zb_s 327).2 → (zm zH_l).2.2 (zH_i 327) j = zk_v zH_i (zb_v zH_Z 327 j) := fun j hj => match j, hj with
  | 0, _ => rfl
  | 1, _ => rfl
  | 2, _ => rfl
  | 3, _ => rfl
  | 4, _ => rfl
  | 5, _ => rfl
  | 6, _ => rfl
  | _ + 7, h => absurd (show _ + 7 < 7 from h) (by omega)
theorem zH_328 : ∀ j, j < (zb_s 328).2 → (zm zH_l).2.2 (zH_i 328) j = zk_v zH_i (zb_v zH_Z 328 j) := fun _ _ => rfl
theorem zH_329 : ∀ j, j < (zb_s 329).2 → (zm zH_l).2.2 (zH_i 329) j = zk_v zH_i (zb_v zH_Z 329 j) := fun _ _ => rfl
theorem zH_330 : ∀ j, j < (zb_s 330).2 → (zm zH_l).2.2 (zH_i 330) j = zk_v zH_i (zb_v zH_Z 330 j) := fun _ _ => rfl
theorem zH_336 : ∀ j, j < (zb_s 336).2 → (zm zH_l).2.2 (zH_i 336) j = zk_v zH_i (zb_v zH_Z 336 j) := fun j hj => match j, hj with
  | 0, _ => rfl
  | 1, _ => rfl
  | 2, _ => rfl
  | 3, _ => rfl
  | 4, _ => rfl
  | 5, _ => rfl
  | 6, _ => rfl
  | 7, _ => rfl
  | 8, _ => rfl
  | 9, _ => rfl
  | 10, _ => rfl
  | 11, _ => rfl
  | 12, _ => rfl
  | 13, _ => rfl
  | 14, _ => rfl
  | 15, _ => rfl
  | _ + 16, h => absurd (show _ + 16 < 16 from h) (by omega)
theorem zH_337 : ∀ j, j < (zb_s 337).2 → (zm zH_l).2.2 (zH_i 337) j = zk_v zH_i (zb_v zH_Z 337 j) := fun _ _ => rfl
theorem zH_338 : ∀ j, j < (zb_s 338).2 → (zm zH_l).2.2 (zH_i 338) j = zk_v zH_i (zb_v zH_Z 338 j) := fun _ _ => rfl
theorem zH_339 : ∀ j, j < (zb_s 339).2 → (zm zH_l).2.2 (zH_i 339) j = zk_v zH_i (zb_v zH_Z 339 j) := fun _ _ => rfl
theorem zH_340 : ∀ j, j < (zb_s 340).2 → (zm zH_l).2.2 (zH_i 340) j = zk_v zH_i (zb_v zH_Z 340 j) := fun _ _ => rfl
theorem zH_341 : ∀ j, j < (zb_s 341).2 → (zm zH_l).2.2 (zH_i 341) j = zk_v zH_i (zb_v zH_Z 341 j) := fun _ _ => rfl
theorem zH_342 : ∀ j, j < (zb_s 342).2 → (zm zH_l).2.2 (zH_i 342) j = zk_v zH_i (zb_v zH_Z 342 j) := fun _ _ => rfl
theorem zH_343 : ∀ j, j < (zb_s 343).2 → (zm zH_l).2.2 (zH_i 343) j = zk_v zH_i (zb_v zH_Z 343 j) := fun _ _ => rfl
theorem zH_344 : ∀ j, j < (zb_s 344).2 → (zm zH_l).2.2 (zH_i 344) j = zk_v zH_i (zb_v zH_Z 344 j) := fun _ _ => rfl
theorem zH_345 : ∀ j, j < (zb_s 345).2 → (zm zH_l).2.2 (zH_i 345) j = zk_v zH_i (zb_v zH_Z 345 j) := fun _ _ => rfl
theorem zH_346 : ∀ j, j < (zb_s 346).2 → (zm zH_l).2.2 (zH_i 346) j = zk_v zH_i (zb_v zH_Z 346 j) := fun _ _ => rfl
theorem zH_347 : ∀ j, j < (zb_s 347).2 → (zm zH_l).2.2 (zH_i 347) j = zk_v zH_i (zb_v zH_Z 347 j) := fun _ _ => rfl
theorem zH_348 : ∀ j, j < (zb_s 348).2 → (zm zH_l).2.2 (zH_i 348) j = zk_v zH_i (zb_v zH_Z 348 j) := fun _ _ => rfl
theorem zH_352 : ∀ j, j < (zb_s 352).2 → (zm zH_l).2.2 (zH_i 352) j = zk_v zH_i (zb_v zH_Z 352 j) := fun j hj => match j, hj with
  | 0, _ => rfl
  | 1, _ => rfl
  | 2, _ => rfl
  | 3, _ => rfl
  | 4, _ => rfl
  | 5, _ => rfl
  | 6, _ => rfl
  | 7, _ => rfl
  | 8, _ => rfl
  | 9, _ => rfl
  | 10, _ => rfl
  | 11, _ => rfl
  | 12, _ => rfl
  | 13, _ => rfl
  | 14, _ => rfl
  | 15, _ => rfl
  | _ + 16, h => absurd (show _ + 16 < 16 from h) (by omega)
theorem zH_353 : ∀ j, j < (zb_s 353).2 → (zm zH_l).2.2 (zH_i 353) j = zk_v zH_i (zb_v zH_Z 353 j) := fun _ _ => rfl
theorem zH_354 : ∀ j, j < (zb_s 354).2 → (zm zH_l).2.2 (zH_i 354) j = zk_v zH_i (zb_v zH_Z 354 j) := fun _ _ => rfl
theorem zH_355 : ∀ j, j < (zb_s 355).2 → (zm zH_l).2.2 (zH_i 355) j = zk_v zH_i (zb_v zH_Z 355 j) := fun _ _ => rfl
theorem zH_356 : ∀ j, j < (zb_s 356).2 → (zm zH_l).2.2 (zH_i 356) j = zk_v zH_i (zb_v zH_Z 356 j) := fun _ _ => rfl
theorem zH_357 : ∀ j, j < (zb_s 357).2 → (zm zH_l).2.2 (zH_i 357) j = zk_v zH_i (zb_v zH_Z 357 j) := fun _ _ => rfl
theorem zH_358 : ∀ j, j < (zb_s 358).2 → (zm zH_l).2.2 (zH_i 358) j = zk_v zH_i (zb_v zH_Z 358 j) := fun _ _ => rfl
theorem zH_359 : ∀ j, j < (zb_s 359).2 → (zm zH_l).2.2 (zH_i 359) j = zk_v zH_i (zb_v zH_Z 359 j) := fun _ _ => rfl
theorem zH_360 : ∀ j, j < (zb_s 360).2 → (zm zH_l).2.2 (zH_i 360) j = zk_v zH_i (zb_v zH_Z 360 j) := fun _ _ => rfl
theorem zH_361 : ∀ j, j < (zb_s 361).2 → (zm zH_l).2.2 (zH_i 361) j = zk_v zH_i (zb_v zH_Z 361 j) := fun _ _ => rfl
theorem zH_362 : ∀ j, j < (zb_s 362).2 → (zm zH_l).2.2 (zH_i 362) j = zk_v zH_i (zb_v zH_Z 362 j) := fun _ _ => rfl
theorem zH_363 : ∀ j, j < (zb_s 363).2 → (zm zH_l).2.2 (zH_i 363) j = zk_v zH_i (zb_v zH_Z 363 j) := fun _ _ => rfl
theorem zH_364 : ∀ j, j < (zb_s 364).2 → (zm zH_l).2.2 (zH_i 364) j = zk_v zH_i (zb_v zH_Z 364 j) := fun _ _ => rfl
theorem zH_368 : ∀ j, j < (zb_s 368).2 → (zm zH_l).2.2 (zH_i 368) j = zk_v zH_i (zb_v zH_Z 368 j) := fun j hj => match j, hj with
  | 0, _ => rfl
  | 1, _ => rfl
  | 2, _ => rfl
  | 3, _ => rfl
  | 4, _ => rfl
  | 5, _ => rfl
  | 6, _ => rfl
  | 7, _ => rfl
  | 8, _ => rfl
  | 9, _ => rfl
  | 10, _ => rfl
  | 11, _ => rfl
  | 12, _ => rfl
  | 13, _ => rfl
  | 14, _ => rfl
  | 15, _ => rfl
  | 16, _ => rfl
  | 17, _ => rfl
  | 18, _ => rfl
  | _ + 19, h => absurd (show _ + 19 < 19 from h) (by omega)
theorem zH_369 : ∀ j, j < (zb_s 369).2 → (zm zH_l).2.2 (zH_i 369) j = zk_v zH_i (zb_v zH_Z 369 j) := fun _ _ => rfl
theorem zH_370 : ∀ j, j < (zb_s 370).2 → (zm zH_l).2.2 (zH_i 370) j = zk_v zH_i (zb_v zH_Z 370 j) := fun _ _ => rfl
theorem zH_371 : ∀ j, j < (zb_s 371).2 → (zm zH_l).2.2 (zH_i 371) j = zk_v zH_i (zb_v zH_Z 371 j) := fun _ _ => rfl
theorem zH_372 : ∀ j, j < (zb_s 372).2 → (zm zH_l).2.2 (zH_i 372) j = zk_v zH_i (zb_v zH_Z 372 j) := fun _ _ => rfl
theorem zH_373 : ∀ j, j < (zb_s 373).2 → (zm zH_l).2.2 (zH_i 373) j = zk_v zH_i (zb_v zH_Z 373 j) := fun _ _ => rfl
theorem zH_374 : ∀ j, j < (zb_s 374).2 → (zm zH_l).2.2 (zH_i 374) j = zk_v zH_i (zb_v zH_Z 374 j) := fun _ _ => rfl
theorem zH_375 : ∀ j, j < (zb_s 375).2 → (zm zH_l).2.2 (zH_i 375) j = zk_v zH_i (zb_v zH_Z 375 j) := fun _ _ => rfl
theorem zH_376 : ∀ j, j < (zb_s 376).2 → (zm zH_l).2.2 (zH_i 376) j = zk_v zH_i (zb_v zH_Z 376 j) := fun _ _ => rfl
theorem zH_377 : ∀ j, j < (zb_s 377).2 → (zm zH_l).2.2 (zH_i 377) j = zk_v zH_i (zb_v zH_Z 377 j) := fun _ _ => rfl
theorem zH_378 : ∀ j, j < (zb_s 378).2 → (zm zH_l).2.2 (zH_i 378) j = zk_v zH_i (zb_v zH_Z 378 j) := fun _ _ => rfl
theorem zH_379 : ∀ j, j < (zb_s 379).2 → (zm zH_l).2.2 (zH_i 379) j = zk_v zH_i (zb_v zH_Z 379 j) := fun _ _ => rfl
theorem zH_380 : ∀ j, j < (zb_s 380).2 → (zm zH_l).2.2 (zH_i 380) j = zk_v zH_i (zb_v zH_Z 380 j) := fun _ _ => rfl
theorem zH_381 : ∀ j, j < (zb_s 381).2 → (zm zH_l).2.2 (zH_i 381) j = zk_v zH_i (zb_v zH_Z 381 j) := fun _ _ => rfl
theorem zH_382 : ∀ j, j < (zb_s 382).2 → (zm zH_l).2.2 (zH_i 382) j = zk_v zH_i (zb_v zH_Z 382 j) := fun _ _ => rfl
theorem zH_383 : ∀ j, j < (zb_s 383).2 → (zm zH_l).2.2 (zH_i 383) j = zk_v zH_i (zb_v zH_Z 383 j) := fun j hj => match j, hj with
  | 0, _ => rfl
  | 1, _ => rfl
  | 2, _ => rfl
  | 3, _ => rfl
  | 4, _ => rfl
  | 5, _ => rfl
  | 6, _ => rfl
  | 7, _ => rfl
  | _ + 8, h => absurd (show _ + 8 < 8 from h) (by omega)
theorem zH_384 : ∀ j, j < (zb_s 384).2 → (zm zH_l).2.2 (zH_i 384) j = zk_v zH_i (zb_v zH_Z 384 j) := fun _ _ => rfl
theorem zH_385 : ∀ j, j < (zb_s 385).2 → (zm zH_l).2.2 (zH_i 385) j = zk_v zH_i (zb_v zH_Z 385 j) := fun _ _ => rfl
theorem zH_386 : ∀ j, j < (zb_s 386).2 → (zm zH_l).2.2 (zH_i 386) j = zk_v zH_i (zb_v zH_Z 386 j) := fun _ _ => rfl
theorem zH_387 : ∀ j, j < (zb_s 387).2 → (zm zH_l).2.2 (zH_i 387) j = zk_v zH_i (zb_v zH_Z 387 j) := fun _ _ => rfl
theorem zH_388 : ∀ j, j < (zb_s 388).2 → (zm zH_l).2.2 (zH_i 388) j = zk_v zH_i (zb_v zH_Z 388 j) := fun _ _ => rfl
theorem zH_400 : ∀ j, j < (zb_s 400).2 → (zm zH_l).2.2 (zH_i 400) j = zk_v zH_i (zb_v zH_Z 400 j) := fun j hj => match j, hj with
  | 0, _ => rfl
  | 1, _ => rfl
  | 2, _ => rfl
  | 3, _ => rfl
  | 4, _ => rfl
  | 5, _ => rfl
  | 6, _ => rfl
  | 7, _ => rfl
  | 8, _ => rfl
  | 9, _ => rfl
  | 10, _ => rfl
  | 11, _ => rfl
  | 12, _ => rfl
  | 13, _ => rfl
  | 14, _ => rfl
  | 15, _ => rfl
  | 16, _ => rfl
  | 17, _ => rfl
  | 18, _ => rfl
  | _ + 19, h => absurd (show _ + 19 < 19 from h) (by omega)
theorem zH_401 : ∀ j, j < (zb_s 401).2 → (zm zH_l).2.2 (zH_i 401) j = zk_v zH_i (zb_v zH_Z 401 j) := fun _ _ => rfl
theorem zH_402 : ∀ j, j < (zb_s 402).2 → (zm zH_l).2.2 (zH_i 402) j = zk_v zH_i (zb_v zH_Z 402 j) := fun _ _ => rfl
theorem zH_403 : ∀ j, j < (zb_s 403).2 → (zm zH_l).2.2 (zH_i 403) j = zk_v zH_i (zb_v zH_Z 403 j) := fun _ _ => rfl
theorem zH_404 : ∀ j, j < (zb_s 404).2 → (zm zH_l).2.2 (zH_i 404) j = zk_v zH_i (zb_v zH_Z 404 j) := fun _ _ => rfl
theorem zH_405 : ∀ j, j < (zb_s 405).2 → (zm zH_l).2.2 (zH_i 405) j = zk_v zH_i (zb_v zH_Z 405 j) := fun _ _ => rfl
theorem zH_406 : ∀ j, j < (zb_s 406).2 → (zm zH_l).2.2 (zH_i 406) j = zk_v zH_i (zb_v zH_Z 406 j) := fun _ _ => rfl
theorem zH_407 : ∀ j, j < (zb_s 407).2 → (zm zH_l).2.2 (zH_i 407) j = zk_v zH_i (zb_v zH_Z 407 j) := fun _ _ => rfl
theorem zH_408 : ∀ j, j < (zb_s 408).2 → (zm zH_l).2.2 (zH_i 408) j = zk_v zH_i (zb_v zH_Z 408 j) := fun _ _ => rfl
theorem zH_409 : ∀ j, j < (zb_s 409).2 → (zm zH_l).2.2 (zH_i 409) j = zk_v zH_i (zb_v zH_Z 409 j) := fun _ _ => rfl
theorem zH_410 : ∀ j, j < (zb_s 410).2 → (zm zH_l).2.2 (zH_i 410) j = zk_v zH_i (zb_v zH_Z 410 j) := fun _ _ => rfl
theorem zH_411 : ∀ j, j < (zb_s 411).2 → (zm zH_l).2.2 (zH_i 411) j = zk_v zH_i (zb_v zH_Z 411 j) := fun _ _ => rfl
theorem zH_412 : ∀ j, j < (zb_s 412).2 → (zm zH_l).2.2 (zH_i 412) j = zk_v zH_i (zb_v zH_Z 412 j) := fun _ _ => rfl
theorem zH_413 : ∀ j, j < (zb_s 413).2 → (zm zH_l).2.2 (zH_i 413) j = zk_v zH_i (zb_v zH_Z 413 j) := fun _ _ => rfl
theorem zH_414 : ∀ j, j < (zb_s 414).2 → (zm zH_l).2.2 (zH_i 414) j = zk_v zH_i (zb_v zH_Z 414 j) := fun _ _ => rfl
theorem zH_415 : ∀ j, j < (zb_s 415).2 → (zm zH_l).2.2 (zH_i 415) j = zk_v zH_i (zb_v zH_Z 415 j) := fun j hj => match j, hj with
  | 0, _ => rfl
  | 1, _ => rfl
  | 2, _ => rfl
  | 3, _ => rfl
  | 4, _ => rfl
  | 5, _ => rfl
  | 6, _ => rfl
  | 7, _ => rfl
  | _ + 8, h => absurd (show _ + 8 < 8 from h) (by omega)
theorem zH_416 : ∀ j, j < (zb_s 416).2 → (zm zH_l).2.2 (zH_i 416) j = zk_v zH_i (zb_v zH_Z 416 j) := fun _ _ => rfl
theorem zH_417 : ∀ j, j < (zb_s 417).2 → (zm zH_l).2.2 (zH_i 417) j = zk_v zH_i (zb_v zH_Z 417 j) := fun _ _ => rfl
theorem zH_418 : ∀ j, j < (zb_s 418).2 → (zm zH_l).2.2 (zH_i 418) j = zk_v zH_i (zb_v zH_Z 418 j) := fun _ _ => rfl
theorem zH_419 : ∀ j, j < (zb_s 419).2 → (zm zH_l).2.2 (zH_i 419) j = zk_v zH_i (zb_v zH_Z 419 j) := fun _ _ => rfl
theorem zH_420 : ∀ j, j < (zb_s 420).2 → (zm zH_l).2.2 (zH_i 420) j = zk_v zH_i (zb_v zH_Z 420 j) := fun _ _ => rfl
theorem zH_v : ∀ a ∈ zH_a, ∀ j, j < (zb_s a).2 → (zm zH_l).2.2 (zH_i a) j = zk_v zH_i (zb_v zH_Z a j) := by
  unfold zH_a
  simp only [List.forall_mem_cons]
  exact ⟨zH_320, zH_321, zH_322, zH_323, zH_324, zH_325, zH_326, zH_327, zH_328, zH_329, zH_330, zH_336, zH_337, zH_338, zH_339, zH_340, zH_341, zH_342, zH_343, zH_344, zH_345, zH_346, zH_347, zH_348, zH_352, zH_353, zH_354, zH_355, zH_356, zH_357, zH_358, zH_359, zH_360, zH_361, zH_362, zH_363, zH_364, zH_368, zH_369, zH_370, zH_371, zH_372, zH_373, zH_374, zH_375, zH_376, zH_377, zH_378, zH_379, zH_380, zH_381, zH_382, zH_383, zH_384, zH_385, zH_386, zH_387, zH_388, zH_400, zH_401, zH_402, zH_403, zH_404, zH_405, zH_406, zH_407, zH_408, zH_409, zH_410, zH_411, zH_412, zH_413, zH_414, zH_415, zH_416, zH_417, zH_418, zH_419, zH_420, fun a h => absurd h List.not_mem_nil⟩
theorem zH_r0 : ((List.range 424).all fun a => (List.range (zb_s a).2).all fun j => match zb_v zH_Z a j with | .ref x => decide (x < 424) | _ => true) = true := by decide +kernel
theorem zH_r {a j x : Nat} (ha : a < 424) (hj : j < (zb_s a).2) (h : zb_v zH_Z a j = .ref x) : x < 424 := by
  have q := List.all_eq_true.mp (List.all_eq_true.mp zH_r0 a (List.mem_range.mpr ha)) j (List.mem_range.mpr hj)
  rw [h] at q
  exact of_decide_eq_true q
/-- the new object's cells are the block -/
theorem zH_view : zk_vw zH_i (zb_M zH_Z) (zm zH_l) := by
  refine ⟨fun a ha => ⟨if_pos ha, Or.inl ?_⟩, by show 320 ≤ 424; omega, fun a ha => by rw [zH_n]; exact (zH_b a ha).1, fun a ha hl => ?_, fun a b ha hb la lb e9 => ?_, fun a j x ha hj hx => zH_r ha hj hx⟩
  · show (if a < 320 then _ else _) = (if a < 320 then _ else _)
    rw [if_pos ha, if_pos ha]
  · by_cases q : a < 320
    · have e1 : zH_i a = a := if_pos q
      have e2 : zb_s a = zo_s a := if_pos q
      have e3 : (zb_M zH_Z).1 a = zo_s a := e2
      rw [e1, e3]
      refine ⟨if_pos q, fun k => absurd q (by omega), fun j hj => ?_⟩
      have e4 : (zm zH_l).2.2 a = zo_v a := if_pos q
      have e5 : (zb_M zH_Z).2.2 a j = zo_v a j := by
        show zb_g a j _ = _
        unfold zb_g
        rw [if_pos q]
      rw [e4, e5]
      cases hv : zo_v a j with
      | ref x => exact congrArg Value.ref (show x = zH_i x from (if_pos (zo_r q hj hv)).symm)
      | _ => rfl
    · have hm := zH_live a ha (by omega) hl
      exact ⟨zH_s a hm, (zH_b a ha).2, zH_v a hm⟩
  · have hh : ∀ x, x < 424 → (zb_s x).1 < 1000 → (x < 320 ∧ zH_i x = x) ∨ (320 ≤ zH_i x ∧ x ∈ zH_a) := fun x hx hl => by
      by_cases q : x < 320
      · exact Or.inl ⟨q, if_pos q⟩
      · exact Or.inr ⟨(zH_b x hx).2 (by omega), zH_live x hx (by omega) hl⟩
    rcases hh a ha la with ⟨q1, q2⟩ | ⟨q1, q2⟩
    · rcases hh b hb lb with ⟨k1, k2⟩ | ⟨k1, k2⟩
      · rw [q2, k2] at e9; exact e9
      · omega
    · rcases hh b hb lb with ⟨k1, k2⟩ | ⟨k1, k2⟩
      · omega
      · exact zH_inj a q2 b k2 e9
/-- the constructor, over a memory of one raw object -/
theorem do_new (hd : 3 ≤ d) : zk_Does l Γ mX7_init d 78 6237 [.ref 320] (zm [((0, 7), fun j => defaultValue (tyX7 j))]) F none (zm zH_l) F := do_X7_init (X := [((0, 7), fun j => defaultValue (tyX7 j))]) (i := 0) hd rfl rfl
end

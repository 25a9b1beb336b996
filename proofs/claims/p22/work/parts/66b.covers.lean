/-! The law: the fewest marks for each length. -/
set_option maxHeartbeats 4000000 in
set_option maxRecDepth 100000 in
theorem law_b2 {p : Program} {l : Launch} {e : Env} {s : State} {mt : MethodId} {z : Nat} {below : List Frame} {meth : Method} {c : Code} {G : GG} {nm : String} {Q : State → Prop} {a ar ac : Nat → Nat} {L : Nat} {xs : Nat → Int32} {m : Nat} {er sk : Nat → Int32} {lg : List (Nat × Int32)} {im : Nat × (Nat → Int32) × (Nat → Int32) × Int32} {un tp : Nat} (X : CX p s mt meth c #[Value.ref z] G wsL_law RL cL_law 16 nm (fun q => s.heap.size ≤ q)) (hX : va_X z L xs s s.heap) (hbl : z < s.heap.size) (hLe : L ≤ 260)  (K : ∀ (H : Heap) (locs : List Loc) (ls : Array Slot), StD s G a ar ac (m, er, sk, lg, im, un, tp, 252, 0) H locs → lv_has ls 16 [(5, .int (nI 1)), (4, .int (nI 0)), (3, .int (nI 43348)), (1, .ref (a 0)), (0, .ref z)] → W p l e room_1 s mt #[Value.ref z] below meth c H locs 46 602 Q (F0 mt 333 ls [])) {H : Heap} {locs : List Loc} {ls : Array Slot} (hS : StD s G a ar ac (m, er, sk, lg, im, un, tp, 252, 0) H locs) (hl : lv_has ls 16 [(3, .int (nI 43348)), (1, .ref (a 0)), (0, .ref z)]) : W p l e room_1 s mt #[Value.ref z] below meth c H locs 46 602 Q (F0 mt 259 ls []) := by
  obtain ⟨hx, hb, -⟩ := id X
  refine lv_aload_n hx hb dL_law_259 rfl (lv_at hl 1 rfl) ?_
  refine lv_iconst (v := nI 4) hx hb dL_law_260 (by decide) ?_
  refine lv_iconst (v := nI 1) hx hb dL_law_261 (by decide) ?_
  refine r_ruler  4 (nI 1) (by omega) (by omega) (by decide) X hS hl.1 (Nat.le_of_ble_eq_true rfl) dL_law_262 (fun H locs hS => ?_)
  have hS : StD s G a ar ac (m, er, sk, lg, im, un, tp, 252, 0) H locs := by
    rw [kr_or.1] at hS
    exact hS
  refine x_cvi (y := nI 2) (by rw [ans_r (by omega) (by omega)]; exact rul_v.1) ?_
  refine lv_iconst (v := nI 2) hx hb dL_law_265 (by decide) ?_
  refine lv_icmp_ne (tgt := 325) hx hb dL_law_266 (by decide) (fun h => absurd rfl h) (fun _ => ?_)
  refine lv_aload_n hx hb dL_law_269 rfl (lv_at hl 1 rfl) ?_
  refine lv_iconst (v := nI 4) hx hb dL_law_270 (by decide) ?_
  refine lv_bipush (v := nI 11) hx hb dL_law_271 (by decide) ?_
  refine r_ruler  4 (nI 11) (by omega) (by omega) (by decide) X hS hl.1 (Nat.le_of_ble_eq_true rfl) dL_law_273 (fun H locs hS => ?_)
  have hS : StD s G a ar ac (m, er, sk, lg, im, un, tp, 252, 0) H locs := by
    rw [kr_or.1] at hS
    exact hS
  refine x_cvi (y := nI 1) (by rw [ans_r (by omega) (by omega)]; exact rul_v.2.1) ?_
  refine lv_iconst (v := nI 1) hx hb dL_law_276 (by decide) ?_
  refine lv_icmp_ne (tgt := 325) hx hb dL_law_277 (by decide) (fun h => absurd rfl h) (fun _ => ?_)
  refine lv_aload_n hx hb dL_law_280 rfl (lv_at hl 1 rfl) ?_
  refine lv_iconst (v := nI 4) hx hb dL_law_281 (by decide) ?_
  refine lv_bipush (v := nI 12) hx hb dL_law_282 (by decide) ?_
  refine r_ruler  4 (nI 12) (by omega) (by omega) (by decide) X hS hl.1 (Nat.le_of_ble_eq_true rfl) dL_law_284 (fun H locs hS => ?_)
  have hS : StD s G a ar ac (m, er, sk, lg, im, un, tp, 252, 0) H locs := by
    rw [kr_or.1] at hS
    exact hS
  refine x_cvi (y := nI 4) (by rw [ans_r (by omega) (by omega)]; exact rul_v.2.2.1) ?_
  refine lv_iconst (v := nI 4) hx hb dL_law_287 (by decide) ?_
  refine lv_icmp_ne (tgt := 325) hx hb dL_law_288 (by decide) (fun h => absurd rfl h) (fun _ => ?_)
  refine lv_aload_n hx hb dL_law_291 rfl (lv_at hl 1 rfl) ?_
  refine lv_iconst (v := nI 5) hx hb dL_law_292 (by decide) ?_
  refine lv_iconst (v := nI 1) hx hb dL_law_293 (by decide) ?_
  refine r_ruler  5 (nI 1) (by omega) (by omega) (by decide) X hS hl.1 (Nat.le_of_ble_eq_true rfl) dL_law_294 (fun H locs hS => ?_)
  have hS : StD s G a ar ac (m, er, sk, lg, im, un, tp, 252, 0) H locs := by
    rw [kr_or.2.1] at hS
    exact hS
  refine x_cvi (y := nI 4) (by rw [ans_r (by omega) (by omega)]; exact rul_v.2.2.2.1) ?_
  refine lv_iconst (v := nI 4) hx hb dL_law_297 (by decide) ?_
  refine lv_icmp_ne (tgt := 325) hx hb dL_law_298 (by decide) (fun h => absurd rfl h) (fun _ => ?_)
  refine lv_aload_n hx hb dL_law_301 rfl (lv_at hl 1 rfl) ?_
  refine lv_bipush (v := nI 6) hx hb dL_law_302 (by decide) ?_
  refine lv_iconst (v := nI 1) hx hb dL_law_304 (by decide) ?_
  refine r_ruler  6 (nI 1) (by omega) (by omega) (by decide) X hS hl.1 (Nat.le_of_ble_eq_true rfl) dL_law_305 (fun H locs hS => ?_)
  have hS : StD s G a ar ac (m, er, sk, lg, im, un, tp, 252, 0) H locs := by
    rw [kr_or.2.2.1] at hS
    exact hS
  refine x_cvi (y := nI 8) (by rw [ans_r (by omega) (by omega)]; exact rul_v.2.2.2.2.1) ?_
  refine lv_bipush (v := nI 8) hx hb dL_law_308 (by decide) ?_
  refine lv_icmp_ne (tgt := 325) hx hb dL_law_310 (by decide) (fun h => absurd rfl h) (fun _ => ?_)
  refine lv_aload_n hx hb dL_law_313 rfl (lv_at hl 1 rfl) ?_
  refine lv_bipush (v := nI 7) hx hb dL_law_314 (by decide) ?_
  refine lv_iconst (v := nI 1) hx hb dL_law_316 (by decide) ?_
  refine r_ruler  7 (nI 1) (by omega) (by omega) (by decide) X hS hl.1 (Nat.le_of_ble_eq_true rfl) dL_law_317 (fun H locs hS => ?_)
  have hS : StD s G a ar ac (m, er, sk, lg, im, un, tp, 252, 0) H locs := by
    rw [kr_or.2.2.2] at hS
    exact hS
  refine x_cvi (y := nI 10) (by rw [ans_r (by omega) (by omega)]; exact rul_v.2.2.2.2.2) ?_
  refine lv_bipush (v := nI 10) hx hb dL_law_320 (by decide) ?_
  refine lv_icmp_eq (tgt := 327) hx hb dL_law_322 (by decide) (fun _ => ?_) (fun h => absurd rfl h)
  refine lv_iconst (v := nI 0) hx hb dL_law_327 (by decide) ?_
  refine lv_istore (lv' := [(4, .int (nI 0)), (3, .int (nI 43348)), (1, .ref (a 0)), (0, .ref z)]) hx hb dL_law_328 hl (by decide) rfl (fun ls hl => ?_)
  refine lv_iconst (v := nI 1) hx hb dL_law_330 (by decide) ?_
  refine lv_istore (lv' := [(5, .int (nI 1)), (4, .int (nI 0)), (3, .int (nI 43348)), (1, .ref (a 0)), (0, .ref z)]) hx hb dL_law_331 hl (by decide) rfl (fun ls hl => ?_)
  exact K _ _ _ hS (lv_sub hl [0, 1, 2, 3, 4] rfl)
set_option maxHeartbeats 4000000 in
set_option maxRecDepth 100000 in
theorem law_b3 {p : Program} {l : Launch} {e : Env} {s : State} {mt : MethodId} {z : Nat} {below : List Frame} {meth : Method} {c : Code} {G : GG} {nm : String} {Q : State → Prop} {a ar ac : Nat → Nat} {L : Nat} {xs : Nat → Int32} {m : Nat} {er sk : Nat → Int32} {lg : List (Nat × Int32)} {im : Nat × (Nat → Int32) × (Nat → Int32) × Int32} {un tp : Nat} (X : CX p s mt meth c #[Value.ref z] G wsL_law RL cL_law 16 nm (fun q => s.heap.size ≤ q)) (hX : va_X z L xs s s.heap) (hbl : z < s.heap.size) (hLe : L ≤ 260)  (K : ∀ (H : Heap) (locs : List Loc) (ls : Array Slot), StD s G a ar ac (m, er, sk, lg, im, un, tp, 252, kcF 20) H locs → lv_has ls 16 [(5, .int (nI (20 + 1))), (4, .int (nI (lastC 20))), (3, .int (nI (43348 + ttC (kcF 20)))), (1, .ref (a 0)), (0, .ref z)] → W p l e room_1 s mt #[Value.ref z] below meth c H locs 46 602 Q (F0 mt 505 ls [])) : ∀ (r j : Nat), j + r = 20 → ∀ (H : Heap) (locs : List Loc) (ls : Array Slot), StD s G a ar ac (m, er, sk, lg, im, un, tp, 252, kcF j) H locs → lv_has ls 16 [(5, .int (nI (j + 1))), (4, .int (nI (lastC j))), (3, .int (nI (43348 + ttC (kcF j)))), (1, .ref (a 0)), (0, .ref z)] → W p l e room_1 s mt #[Value.ref z] below meth c H locs 46 602 Q (F0 mt 333 ls []) := by
  obtain ⟨hx, hb, -⟩ := id X
  intro r
  induction r with
  | zero =>
    intro j e0 H locs ls hS hl
    have e1 : j = 20 := by omega
    revert hS hl
    rw [e1]
    intro hS hl
    refine lv_iload hx hb dL_law_333 (lv_at hl 0 rfl) ?_
    refine lv_bipush (v := nI 21) hx hb dL_law_335 (by decide) ?_
    refine lv_icmp_ge (tgt := 505) hx hb dL_law_337 (by decide) (fun _ => ?_) (fun h => absurd (i_nle (by omega) (by omega) h) (by omega))
    exact K _ _ _ hS (lv_sub hl [0, 1, 2, 3, 4] rfl)
  | succ r ih =>
    intro j e0 H locs ls hS hl
    have hi : j < 20 := by omega
    obtain ⟨g1, g2⟩ := kcF_s j hi
    obtain ⟨f0, f10, f9, fX, f1, f2, fl, d2, d8⟩ := cov_q (j + 1) (by omega) (by omega)
    have fl : lastC j ≤ dueC (j + 1) := fl
    have gq := kcF_q j hi
    refine lv_iload hx hb dL_law_333 (lv_at hl 0 rfl) ?_
    refine lv_bipush (v := nI 21) hx hb dL_law_335 (by decide) ?_
    refine lv_icmp_ge (tgt := 505) hx hb dL_law_337 (by decide) (fun h => absurd (i_le (by omega) (by omega) h) (by omega)) (fun _ => ?_)
    have kJ1 : (∀ (H : Heap) (locs : List Loc), StD s G a ar ac (m, er, sk, lg, im, un, tp, 252, kcF j) H locs → W p l e room_1 s mt #[Value.ref z] below meth c H locs 46 602 Q (F0 mt 408 ls [.int (nI (dueC (j + 1)))])) → W p l e room_1 s mt #[Value.ref z] below meth c H locs 46 602 Q (F0 mt 340 ls []) := by
      intro kj
      refine lv_iload hx hb dL_law_340 (lv_at hl 0 rfl) ?_
      refine lv_iconst (v := nI 2) hx hb dL_law_342 (by decide) ?_
      refine lv_icmp_ge (tgt := 350) hx hb dL_law_343 (by decide) (fun c343 => ?_) (fun c343 => ?_)
      · have c343 : 2 ≤ j + 1 := i_le (by omega) (by omega) c343
        refine lv_iload hx hb dL_law_350 (lv_at hl 0 rfl) ?_
        refine lv_iconst (v := nI 4) hx hb dL_law_352 (by decide) ?_
        refine lv_icmp_ge (tgt := 360) hx hb dL_law_353 (by decide) (fun c353 => ?_) (fun c353 => ?_)
        · have c353 : 4 ≤ j + 1 := i_le (by omega) (by omega) c353
          refine lv_iload hx hb dL_law_360 (lv_at hl 0 rfl) ?_
          refine lv_bipush (v := nI 7) hx hb dL_law_362 (by decide) ?_
          refine lv_icmp_ge (tgt := 371) hx hb dL_law_364 (by decide) (fun c364 => ?_) (fun c364 => ?_)
          · have c364 : 7 ≤ j + 1 := i_le (by omega) (by omega) c364
            refine lv_iload hx hb dL_law_371 (lv_at hl 0 rfl) ?_
            refine lv_bipush (v := nI 10) hx hb dL_law_373 (by decide) ?_
            refine lv_icmp_ge (tgt := 382) hx hb dL_law_375 (by decide) (fun c375 => ?_) (fun c375 => ?_)
            · have c375 : 10 ≤ j + 1 := i_le (by omega) (by omega) c375
              refine lv_iload hx hb dL_law_382 (lv_at hl 0 rfl) ?_
              refine lv_bipush (v := nI 14) hx hb dL_law_384 (by decide) ?_
              refine lv_icmp_ge (tgt := 394) hx hb dL_law_386 (by decide) (fun c386 => ?_) (fun c386 => ?_)
              · have c386 : 14 ≤ j + 1 := i_le (by omega) (by omega) c386
                refine lv_iload hx hb dL_law_394 (lv_at hl 0 rfl) ?_
                refine lv_bipush (v := nI 18) hx hb dL_law_396 (by decide) ?_
                refine lv_icmp_ge (tgt := 406) hx hb dL_law_398 (by decide) (fun c398 => ?_) (fun c398 => ?_)
                · have c398 : 18 ≤ j + 1 := i_le (by omega) (by omega) c398
                  refine lv_bipush (v := nI 8) hx hb dL_law_406 (by decide) ?_
                  refine x_cvi (y := nI (dueC (j + 1))) (congrArg nI (by unfold dueC; (repeat' split) <;> omega)) ?_
                  exact kj H locs hS
                · have c398 : j + 1 < 18 := i_nle (by omega) (by omega) c398
                  refine lv_bipush (v := nI 7) hx hb dL_law_401 (by decide) ?_
                  refine lv_goto (tgt := 408) hx hb dL_law_403 (by decide) ?_
                  refine x_cvi (y := nI (dueC (j + 1))) (congrArg nI (by unfold dueC; (repeat' split) <;> omega)) ?_
                  exact kj H locs hS
              · have c386 : j + 1 < 14 := i_nle (by omega) (by omega) c386
                refine lv_bipush (v := nI 6) hx hb dL_law_389 (by decide) ?_
                refine lv_goto (tgt := 408) hx hb dL_law_391 (by decide) ?_
                refine x_cvi (y := nI (dueC (j + 1))) (congrArg nI (by unfold dueC; (repeat' split) <;> omega)) ?_
                exact kj H locs hS
            · have c375 : j + 1 < 10 := i_nle (by omega) (by omega) c375
              refine lv_iconst (v := nI 5) hx hb dL_law_378 (by decide) ?_
              refine lv_goto (tgt := 408) hx hb dL_law_379 (by decide) ?_
              refine x_cvi (y := nI (dueC (j + 1))) (congrArg nI (by unfold dueC; (repeat' split) <;> omega)) ?_
              exact kj H locs hS
          · have c364 : j + 1 < 7 := i_nle (by omega) (by omega) c364
            refine lv_iconst (v := nI 4) hx hb dL_law_367 (by decide) ?_
            refine lv_goto (tgt := 408) hx hb dL_law_368 (by decide) ?_
            refine x_cvi (y := nI (dueC (j + 1))) (congrArg nI (by unfold dueC; (repeat' split) <;> omega)) ?_
            exact kj H locs hS
        · have c353 : j + 1 < 4 := i_nle (by omega) (by omega) c353
          refine lv_iconst (v := nI 3) hx hb dL_law_356 (by decide) ?_
          refine lv_goto (tgt := 408) hx hb dL_law_357 (by decide) ?_
          refine x_cvi (y := nI (dueC (j + 1))) (congrArg nI (by unfold dueC; (repeat' split) <;> omega)) ?_
          exact kj H locs hS
      · have c343 : j + 1 < 2 := i_nle (by omega) (by omega) c343
        refine lv_iconst (v := nI 2) hx hb dL_law_346 (by decide) ?_
        refine lv_goto (tgt := 408) hx hb dL_law_347 (by decide) ?_
        refine x_cvi (y := nI (dueC (j + 1))) (congrArg nI (by unfold dueC; (repeat' split) <;> omega)) ?_
        exact kj H locs hS
    refine kJ1 (fun H locs hS => ?_)
    refine lv_istore (lv' := [(6, .int (nI (dueC (j + 1)))), (5, .int (nI (j + 1))), (4, .int (nI (lastC j))), (3, .int (nI (43348 + ttC (kcF j)))), (1, .ref (a 0)), (0, .ref z)]) hx hb dL_law_408 hl (by decide) rfl (fun ls hl => ?_)
    refine lv_aload_n hx hb dL_law_410 rfl (lv_at hl 4 rfl) ?_
    refine lv_iload hx hb dL_law_411 (lv_at hl 1 rfl) ?_
    refine lv_iconst (v := nI 0) hx hb dL_law_413 (by decide) ?_
    refine r_cover  (j + 1) (nI 0) (by omega) (by omega) (by decide) X hS hl.1 (Nat.le_of_ble_eq_true rfl) dL_law_414 (fun H locs hS => ?_)
    have hS : StD s G a ar ac (m, er, sk, lg, im, un, tp, 252, kcF (j + 1)) H locs := by
      exact hS
    refine x_cvi (y := nI (dueC (j + 1))) (by rw [ans_c (by omega) (by omega)]; exact f0) ?_
    refine lv_iload hx hb dL_law_417 (lv_at hl 0 rfl) ?_
    refine lv_icmp_ne (tgt := 483) hx hb dL_law_419 (by decide) (fun h => absurd rfl h) (fun _ => ?_)
    refine lv_aload_n hx hb dL_law_422 rfl (lv_at hl 4 rfl) ?_
    refine lv_iload hx hb dL_law_423 (lv_at hl 1 rfl) ?_
    refine lv_bipush (v := nI 10) hx hb dL_law_425 (by decide) ?_
    refine r_cover  (j + 1) (nI 10) (by omega) (by omega) (by decide) X hS hl.1 (Nat.le_of_ble_eq_true rfl) dL_law_427 (fun H locs hS => ?_)
    have hS : StD s G a ar ac (m, er, sk, lg, im, un, tp, 252, kcF (j + 1)) H locs := by
      rw [g2] at hS
      exact hS
    refine x_cvi (y := nI 0) (by rw [ans_c (by omega) (by omega)]; exact f10) ?_
    refine lv_if_ne (tgt := 483) hx hb dL_law_430 (by decide) (fun h => absurd rfl h) (fun _ => ?_)
    refine lv_aload_n hx hb dL_law_433 rfl (lv_at hl 4 rfl) ?_
    refine lv_iload hx hb dL_law_434 (lv_at hl 1 rfl) ?_
    refine lv_bipush (v := nI 9) hx hb dL_law_436 (by decide) ?_
    refine lv_iload hx hb dL_law_438 (lv_at hl 0 rfl) ?_
    refine lv_iadd hx hb dL_law_440 ?_
    refine x_cvi (y := nI (9 + (dueC (j + 1)))) (nI_add _ _) ?_
    refine r_cover  (j + 1) (nI (9 + (dueC (j + 1)))) (by omega) (by omega) (inA_hi _ (by omega) (by omega)) X hS hl.1 (Nat.le_of_ble_eq_true rfl) dL_law_441 (fun H locs hS => ?_)
    have hS : StD s G a ar ac (m, er, sk, lg, im, un, tp, 252, kcF (j + 1)) H locs := by
      rw [g2] at hS
      exact hS
    refine x_cvi (y := nI (j + 1)) (by rw [ans_c (by omega) (by omega)]; exact f9) ?_
    refine lv_iload hx hb dL_law_444 (lv_at hl 1 rfl) ?_
    refine lv_icmp_ne (tgt := 483) hx hb dL_law_446 (by decide) (fun h => absurd rfl h) (fun _ => ?_)
    refine lv_aload_n hx hb dL_law_449 rfl (lv_at hl 4 rfl) ?_
    refine lv_iload hx hb dL_law_450 (lv_at hl 1 rfl) ?_
    refine lv_bipush (v := nI 10) hx hb dL_law_452 (by decide) ?_
    refine lv_iload hx hb dL_law_454 (lv_at hl 0 rfl) ?_
    refine lv_iadd hx hb dL_law_456 ?_
    refine x_cvi (y := nI (10 + (dueC (j + 1)))) (nI_add _ _) ?_
    refine r_cover  (j + 1) (nI (10 + (dueC (j + 1)))) (by omega) (by omega) (inA_hi _ (by omega) (by omega)) X hS hl.1 (Nat.le_of_ble_eq_true rfl) dL_law_457 (fun H locs hS => ?_)
    have hS : StD s G a ar ac (m, er, sk, lg, im, un, tp, 252, kcF (j + 1)) H locs := by
      rw [g2] at hS
      exact hS
    refine x_cvi (y := (-6)) (by rw [ans_c (by omega) (by omega)]; exact fX) ?_
    refine lv_bipush (v := (-6)) hx hb dL_law_460 (by decide) ?_
    refine lv_icmp_ne (tgt := 483) hx hb dL_law_462 (by decide) (fun h => absurd rfl h) (fun _ => ?_)
    refine lv_aload_n hx hb dL_law_465 rfl (lv_at hl 4 rfl) ?_
    refine lv_iload hx hb dL_law_466 (lv_at hl 1 rfl) ?_
    refine lv_iconst (v := nI 1) hx hb dL_law_468 (by decide) ?_
    refine r_cover  (j + 1) (nI 1) (by omega) (by omega) (by decide) X hS hl.1 (Nat.le_of_ble_eq_true rfl) dL_law_469 (fun H locs hS => ?_)
    have hS : StD s G a ar ac (m, er, sk, lg, im, un, tp, 252, kcF (j + 1)) H locs := by
      rw [g2] at hS
      exact hS
    refine x_cvi (y := fq1 (j + 1) (nI 1)) (by rw [ans_c (by omega) (by omega)]; skip) ?_
    refine lv_iconst (v := nI 1) hx hb dL_law_472 (by decide) ?_
    refine lv_icmp_lt (tgt := 483) hx hb dL_law_473 (by decide) (fun h => absurd h f1) (fun _ => ?_)
    refine lv_iload hx hb dL_law_476 (lv_at hl 0 rfl) ?_
    refine lv_iload hx hb dL_law_478 (lv_at hl 2 rfl) ?_
    refine lv_icmp_ge (tgt := 485) hx hb dL_law_480 (by decide) (fun _ => ?_) (fun h => absurd (i_nle (by omega) (by omega) h) (by omega))
    refine lv_iload hx hb dL_law_485 (lv_at hl 0 rfl) ?_
    refine lv_istore (lv' := [(4, .int (nI (dueC (j + 1)))), (6, .int (nI (dueC (j + 1)))), (5, .int (nI (j + 1))), (3, .int (nI (43348 + ttC (kcF j)))), (1, .ref (a 0)), (0, .ref z)]) hx hb dL_law_487 hl (by decide) rfl (fun ls hl => ?_)
    refine lv_iload_n hx hb dL_law_489 rfl (lv_at hl 3 rfl) ?_
    refine lv_aload_n hx hb dL_law_490 rfl (lv_at hl 4 rfl) ?_
    refine lv_iload hx hb dL_law_491 (lv_at hl 2 rfl) ?_
    refine lv_iconst (v := nI 2) hx hb dL_law_493 (by decide) ?_
    refine r_cover  (j + 1) (nI 2) (by omega) (by omega) (by decide) X hS hl.1 (Nat.le_of_ble_eq_true rfl) dL_law_494 (fun H locs hS => ?_)
    have hS : StD s G a ar ac (m, er, sk, lg, im, un, tp, 252, kcF (j + 1)) H locs := by
      rw [g2] at hS
      exact hS
    refine x_cvi (y := nI (tb1 (j + 1)).2.2.1) (by rw [ans_c (by omega) (by omega)]; exact f2) ?_
    refine lv_iadd hx hb dL_law_497 ?_
    refine x_cvi (y := nI (43348 + ttC (kcF (j + 1)))) (by rw [nI_add, g1, Nat.add_assoc]) ?_
    refine lv_istore_n (lv' := [(3, .int (nI (43348 + ttC (kcF (j + 1))))), (4, .int (nI (dueC (j + 1)))), (6, .int (nI (dueC (j + 1)))), (5, .int (nI (j + 1))), (1, .ref (a 0)), (0, .ref z)]) hx hb dL_law_498 rfl hl (by decide) rfl (fun ls hl => ?_)
    refine lv_iinc (v := nI (j + 1 + 1)) (lv' := [(5, .int (nI (j + 1 + 1))), (3, .int (nI (43348 + ttC (kcF (j + 1))))), (4, .int (nI (dueC (j + 1)))), (6, .int (nI (dueC (j + 1)))), (1, .ref (a 0)), (0, .ref z)]) hx hb dL_law_499 hl (k := 3) rfl (by exact nI_1 _) (by decide) rfl (fun ls hl => ?_)
    refine lv_goto (tgt := 333) hx hb dL_law_502 (by decide) ?_
    exact ih (j + 1) (by omega) _ _ _ hS (lv_sub hl [0, 2, 1, 4, 5] rfl)

set_option maxHeartbeats 4000000 in
set_option maxRecDepth 100000 in
theorem xb_L_law_322 {g : mj_G} {nm : String} {b Ln : Nat} {xs : Nat → Int32} (hC : mj_C g ⟨R_law, nm, ""⟩ code 19 ret room_1) (hE : mj_EL g) (hA : (mj_aa g).2.2.2 = (b, Ln, xs)) (l1 : Nat) (l2 : Int32) (l3 : Int32) (l4 : Int32) (l5 : Int32) (l6 : Bool) (M : mj_M) (h : vb_L_law_322 xs Ln l1 l2 l3 l4 l5 l6 M) : mj_X g 322 [(0, vR (b + 1)), (1, vR l1), (2, vI l2), (3, vI l3), (4, vI l4), (5, vI l5), (6, vI (mj_b l6))] [] M 148 3463 := by
  simp only [vb_L_law_322] at h
  refine mx_aload_n (j := 1) hC dL_law_322 rfl rfl ?_
  refine mx_iconst (v := 3) hC dL_law_323 (by decide) ?_
  refine mx_iconst (v := 4) hC dL_law_324 (by decide) ?_
  obtain ⟨ht210, h⟩ := h
  refine mx_callV (inj := mj_jI) (As := [vI 3, vI 4]) (st := []) hC (ct_X11_about l1 3 4 M _ h) ty_X11_about tw415 ht210 rfl (Nat.le_of_ble_eq_true rfl) ⟨rfl, rfl, ⟨by decide, by decide⟩, by show _ ≤ 600000; omega, by show _ ≤ 7302250; omega⟩ dL_law_325 (fun r211 M212 h => ?_)
  show mj_X g 328 [(0, vR ((b + 1))), (1, vR l1), (2, vI l2), (3, vI l3), (4, vI l4), (5, vI l5), (6, vI (mj_b l6))] [vI r211] M212 148 3463
  refine mx_iload (j := 5) hC dL_law_328 rfl ?_
  refine mx_bipush (v := 30) hC dL_law_330 (by decide) ?_
  refine mx_iadd hC dL_law_332 ?_
  refine mx_icmpne (tgt := 346) hC dL_law_333 (by decide) (fun hc213 => ?_) (fun hc213 => ?_)
  · replace h := mj_nn hc213 h
    refine mx_iconst (v := 0) hC dL_law_346 (by decide) ?_
    exact h.elim
  · replace h := mj_yy hc213 h
    refine mx_sub (L' := [(0, vR (b + 1)), (1, vR l1), (2, vI l2), (3, vI l3), (4, vI l4), (5, vI l5), (6, vI (mj_b l6))]) [0, 1, 2, 3, 4, 5, 6] rfl ?_
    exact show mj_X g 336 [(0, vR (b + 1)), (1, vR l1), (2, vI l2), (3, vI l3), (4, vI l4), (5, vI l5), (6, vI (mj_b l6))] [] M212 148 3463 from (xb_L_law_336 hC hE hA l1 l2 l3 l4 l5 l6 M212 h)
set_option maxHeartbeats 4000000 in
set_option maxRecDepth 100000 in
theorem xb_L_law_312 {g : mj_G} {nm : String} {b Ln : Nat} {xs : Nat → Int32} (hC : mj_C g ⟨R_law, nm, ""⟩ code 19 ret room_1) (hE : mj_EL g) (hA : (mj_aa g).2.2.2 = (b, Ln, xs)) (l1 : Nat) (l2 : Int32) (l3 : Int32) (l4 : Int32) (l5 : Int32) (l6 : Bool) (M : mj_M) (h : vb_L_law_312 xs Ln l1 l2 l3 l4 l5 l6 M) : mj_X g 312 [(0, vR (b + 1)), (1, vR l1), (2, vI l2), (3, vI l3), (4, vI l4), (5, vI l5), (6, vI (mj_b l6))] [] M 148 3463 := by
  simp only [vb_L_law_312] at h
  refine mx_aload_n (j := 1) hC dL_law_312 rfl rfl ?_
  refine mx_iconst (v := 3) hC dL_law_313 (by decide) ?_
  refine mx_iconst (v := 5) hC dL_law_314 (by decide) ?_
  obtain ⟨ht214, h⟩ := h
  refine mx_callV (inj := mj_jI) (As := [vI 3, vI 5]) (st := []) hC (ct_X11_about l1 3 5 M _ h) ty_X11_about tw415 ht214 rfl (Nat.le_of_ble_eq_true rfl) ⟨rfl, rfl, ⟨by decide, by decide⟩, by show _ ≤ 600000; omega, by show _ ≤ 7302250; omega⟩ dL_law_315 (fun r215 M216 h => ?_)
  show mj_X g 318 [(0, vR ((b + 1))), (1, vR l1), (2, vI l2), (3, vI l3), (4, vI l4), (5, vI l5), (6, vI (mj_b l6))] [vI r215] M216 148 3463
  refine mx_iconst (v := 4) hC dL_law_318 (by decide) ?_
  refine mx_icmpne (tgt := 346) hC dL_law_319 (by decide) (fun hc217 => ?_) (fun hc217 => ?_)
  · replace h := mj_nn hc217 h
    refine mx_iconst (v := 0) hC dL_law_346 (by decide) ?_
    exact h.elim
  · replace h := mj_yy hc217 h
    refine mx_sub (L' := [(0, vR (b + 1)), (1, vR l1), (2, vI l2), (3, vI l3), (4, vI l4), (5, vI l5), (6, vI (mj_b l6))]) [0, 1, 2, 3, 4, 5, 6] rfl ?_
    exact show mj_X g 322 [(0, vR (b + 1)), (1, vR l1), (2, vI l2), (3, vI l3), (4, vI l4), (5, vI l5), (6, vI (mj_b l6))] [] M216 148 3463 from (xb_L_law_322 hC hE hA l1 l2 l3 l4 l5 l6 M216 h)
set_option maxHeartbeats 4000000 in
set_option maxRecDepth 100000 in
theorem xb_L_law_302 {g : mj_G} {nm : String} {b Ln : Nat} {xs : Nat → Int32} (hC : mj_C g ⟨R_law, nm, ""⟩ code 19 ret room_1) (hE : mj_EL g) (hA : (mj_aa g).2.2.2 = (b, Ln, xs)) (l1 : Nat) (l2 : Int32) (l3 : Int32) (l4 : Int32) (l5 : Int32) (l6 : Bool) (M : mj_M) (h : vb_L_law_302 xs Ln l1 l2 l3 l4 l5 l6 M) : mj_X g 302 [(0, vR (b + 1)), (1, vR l1), (2, vI l2), (3, vI l3), (4, vI l4), (5, vI l5), (6, vI (mj_b l6))] [] M 148 3463 := by
  simp only [vb_L_law_302] at h
  refine mx_aload_n (j := 1) hC dL_law_302 rfl rfl ?_
  refine mx_iconst (v := 2) hC dL_law_303 (by decide) ?_
  refine mx_iconst (v := 5) hC dL_law_304 (by decide) ?_
  obtain ⟨ht218, h⟩ := h
  refine mx_callV (inj := mj_jI) (As := [vI 2, vI 5]) (st := []) hC (ct_X11_about l1 2 5 M _ h) ty_X11_about tw415 ht218 rfl (Nat.le_of_ble_eq_true rfl) ⟨rfl, rfl, ⟨by decide, by decide⟩, by show _ ≤ 600000; omega, by show _ ≤ 7302250; omega⟩ dL_law_305 (fun r219 M220 h => ?_)
  show mj_X g 308 [(0, vR ((b + 1))), (1, vR l1), (2, vI l2), (3, vI l3), (4, vI l4), (5, vI l5), (6, vI (mj_b l6))] [vI r219] M220 148 3463
  refine mx_iconst (v := 2) hC dL_law_308 (by decide) ?_
  refine mx_icmpne (tgt := 346) hC dL_law_309 (by decide) (fun hc221 => ?_) (fun hc221 => ?_)
  · replace h := mj_nn hc221 h
    refine mx_iconst (v := 0) hC dL_law_346 (by decide) ?_
    exact h.elim
  · replace h := mj_yy hc221 h
    refine mx_sub (L' := [(0, vR (b + 1)), (1, vR l1), (2, vI l2), (3, vI l3), (4, vI l4), (5, vI l5), (6, vI (mj_b l6))]) [0, 1, 2, 3, 4, 5, 6] rfl ?_
    exact show mj_X g 312 [(0, vR (b + 1)), (1, vR l1), (2, vI l2), (3, vI l3), (4, vI l4), (5, vI l5), (6, vI (mj_b l6))] [] M220 148 3463 from (xb_L_law_312 hC hE hA l1 l2 l3 l4 l5 l6 M220 h)
set_option maxHeartbeats 4000000 in
set_option maxRecDepth 100000 in
theorem xb_L_law_293 {g : mj_G} {nm : String} {b Ln : Nat} {xs : Nat → Int32} (hC : mj_C g ⟨R_law, nm, ""⟩ code 19 ret room_1) (hE : mj_EL g) (hA : (mj_aa g).2.2.2 = (b, Ln, xs)) (l1 : Nat) (l2 : Int32) (l3 : Int32) (l4 : Int32) (l5 : Int32) (l6 : Bool) (M : mj_M) (h : vb_L_law_293 xs Ln l1 l2 l3 l4 l5 l6 M) : mj_X g 293 [(0, vR (b + 1)), (1, vR l1), (2, vI l2), (3, vI l3), (4, vI l4), (5, vI l5), (6, vI (mj_b l6))] [] M 148 3463 := by
  simp only [vb_L_law_293] at h
  refine mx_aload_n (j := 1) hC dL_law_293 rfl rfl ?_
  refine mx_iconst (v := 2) hC dL_law_294 (by decide) ?_
  obtain ⟨ht222, h⟩ := h
  refine mx_callV (inj := mj_jI) (As := [vI 2]) (st := []) hC (ct_X11_forfeit l1 2 M _ h) ty_X11_forfeit tw928 ht222 rfl (Nat.le_of_ble_eq_true rfl) ⟨rfl, rfl, ⟨by decide, by decide⟩, by show _ ≤ 600000; omega, by show _ ≤ 7302250; omega⟩ dL_law_295 (fun r223 M224 h => ?_)
  show mj_X g 298 [(0, vR ((b + 1))), (1, vR l1), (2, vI l2), (3, vI l3), (4, vI l4), (5, vI l5), (6, vI (mj_b l6))] [vI r223] M224 148 3463
  refine mx_iconst (v := 1) hC dL_law_298 (by decide) ?_
  refine mx_icmpne (tgt := 346) hC dL_law_299 (by decide) (fun hc225 => ?_) (fun hc225 => ?_)
  · replace h := mj_nn hc225 h
    refine mx_iconst (v := 0) hC dL_law_346 (by decide) ?_
    exact h.elim
  · replace h := mj_yy hc225 h
    refine mx_sub (L' := [(0, vR (b + 1)), (1, vR l1), (2, vI l2), (3, vI l3), (4, vI l4), (5, vI l5), (6, vI (mj_b l6))]) [0, 1, 2, 3, 4, 5, 6] rfl ?_
    exact show mj_X g 302 [(0, vR (b + 1)), (1, vR l1), (2, vI l2), (3, vI l3), (4, vI l4), (5, vI l5), (6, vI (mj_b l6))] [] M224 148 3463 from (xb_L_law_302 hC hE hA l1 l2 l3 l4 l5 l6 M224 h)
set_option maxHeartbeats 4000000 in
set_option maxRecDepth 100000 in
theorem xb_L_law_276 {g : mj_G} {nm : String} {b Ln : Nat} {xs : Nat → Int32} (hC : mj_C g ⟨R_law, nm, ""⟩ code 19 ret room_1) (hE : mj_EL g) (hA : (mj_aa g).2.2.2 = (b, Ln, xs)) (l1 : Nat) (l2 : Int32) (l3 : Int32) (l4 : Int32) (l5 : Int32) (l6 : Bool) (M : mj_M) (h : vb_L_law_276 xs Ln l1 l2 l3 l4 l5 l6 M) : mj_X g 276 [(0, vR (b + 1)), (1, vR l1), (2, vI l2), (3, vI l3), (4, vI l4), (5, vI l5), (6, vI (mj_b l6))] [] M 148 3463 := by
  simp only [vb_L_law_276] at h
  refine mx_aload_n (j := 1) hC dL_law_276 rfl rfl ?_
  refine mx_iload (j := 5) hC dL_law_277 rfl ?_
  refine mx_bipush (v := 30) hC dL_law_279 (by decide) ?_
  refine mx_iadd hC dL_law_281 ?_
  obtain ⟨ht226, h⟩ := h
  refine mx_callV (inj := mj_jI) (As := [vI (l5 + 30)]) (st := []) hC (ct_X11_today l1 (l5 + 30) M _ h) ty_X11_today tw267 ht226 rfl (Nat.le_of_ble_eq_true rfl) ⟨rfl, rfl, ⟨by decide, by decide⟩, by show _ ≤ 600000; omega, by show _ ≤ 7302250; omega⟩ dL_law_282 (fun r227 M228 h => ?_)
  show mj_X g 285 [(0, vR ((b + 1))), (1, vR l1), (2, vI l2), (3, vI l3), (4, vI l4), (5, vI l5), (6, vI (mj_b l6))] [vI r227] M228 148 3463
  refine mx_iload (j := 5) hC dL_law_285 rfl ?_
  refine mx_bipush (v := 29) hC dL_law_287 (by decide) ?_
  refine mx_iadd hC dL_law_289 ?_
  refine mx_icmpne (tgt := 346) hC dL_law_290 (by decide) (fun hc229 => ?_) (fun hc229 => ?_)
  · replace h := mj_nn hc229 h
    refine mx_iconst (v := 0) hC dL_law_346 (by decide) ?_
    exact h.elim
  · replace h := mj_yy hc229 h
    refine mx_sub (L' := [(0, vR (b + 1)), (1, vR l1), (2, vI l2), (3, vI l3), (4, vI l4), (5, vI l5), (6, vI (mj_b l6))]) [0, 1, 2, 3, 4, 5, 6] rfl ?_
    exact show mj_X g 293 [(0, vR (b + 1)), (1, vR l1), (2, vI l2), (3, vI l3), (4, vI l4), (5, vI l5), (6, vI (mj_b l6))] [] M228 148 3463 from (xb_L_law_293 hC hE hA l1 l2 l3 l4 l5 l6 M228 h)
set_option maxHeartbeats 4000000 in
set_option maxRecDepth 100000 in
theorem xb_L_law_266 {g : mj_G} {nm : String} {b Ln : Nat} {xs : Nat → Int32} (hC : mj_C g ⟨R_law, nm, ""⟩ code 19 ret room_1) (hE : mj_EL g) (hA : (mj_aa g).2.2.2 = (b, Ln, xs)) (l1 : Nat) (l2 : Int32) (l3 : Int32) (l4 : Int32) (l5 : Int32) (l6 : Bool) (M : mj_M) (h : vb_L_law_266 xs Ln l1 l2 l3 l4 l5 l6 M) : mj_X g 266 [(0, vR (b + 1)), (1, vR l1), (2, vI l2), (3, vI l3), (4, vI l4), (5, vI l5), (6, vI (mj_b l6))] [] M 148 3463 := by
  simp only [vb_L_law_266] at h
  refine mx_aload_n (j := 1) hC dL_law_266 rfl rfl ?_
  refine mx_iconst (v := 2) hC dL_law_267 (by decide) ?_
  obtain ⟨ht230, h⟩ := h
  refine mx_callV (inj := mj_jI) (As := [vI 2]) (st := []) hC (ct_X11_forfeit l1 2 M _ h) ty_X11_forfeit tw928 ht230 rfl (Nat.le_of_ble_eq_true rfl) ⟨rfl, rfl, ⟨by decide, by decide⟩, by show _ ≤ 600000; omega, by show _ ≤ 7302250; omega⟩ dL_law_268 (fun r231 M232 h => ?_)
  show mj_X g 271 [(0, vR ((b + 1))), (1, vR l1), (2, vI l2), (3, vI l3), (4, vI l4), (5, vI l5), (6, vI (mj_b l6))] [vI r231] M232 148 3463
  refine mx_bipush (v := (-5)) hC dL_law_271 (by decide) ?_
  refine mx_icmpne (tgt := 346) hC dL_law_273 (by decide) (fun hc233 => ?_) (fun hc233 => ?_)
  · replace h := mj_nn hc233 h
    refine mx_iconst (v := 0) hC dL_law_346 (by decide) ?_
    exact h.elim
  · replace h := mj_yy hc233 h
    refine mx_sub (L' := [(0, vR (b + 1)), (1, vR l1), (2, vI l2), (3, vI l3), (4, vI l4), (5, vI l5), (6, vI (mj_b l6))]) [0, 1, 2, 3, 4, 5, 6] rfl ?_
    exact show mj_X g 276 [(0, vR (b + 1)), (1, vR l1), (2, vI l2), (3, vI l3), (4, vI l4), (5, vI l5), (6, vI (mj_b l6))] [] M232 148 3463 from (xb_L_law_276 hC hE hA l1 l2 l3 l4 l5 l6 M232 h)
set_option maxHeartbeats 4000000 in
set_option maxRecDepth 100000 in
theorem xb_L_law_252 {g : mj_G} {nm : String} {b Ln : Nat} {xs : Nat → Int32} (hC : mj_C g ⟨R_law, nm, ""⟩ code 19 ret room_1) (hE : mj_EL g) (hA : (mj_aa g).2.2.2 = (b, Ln, xs)) (l1 : Nat) (l2 : Int32) (l3 : Int32) (l4 : Int32) (l5 : Int32) (l6 : Bool) (M : mj_M) (h : vb_L_law_252 xs Ln l1 l2 l3 l4 l5 l6 M) : mj_X g 252 [(0, vR (b + 1)), (1, vR l1), (2, vI l2), (3, vI l3), (4, vI l4), (5, vI l5), (6, vI (mj_b l6))] [] M 148 3463 := by
  simp only [vb_L_law_252] at h
  refine mx_aload_n (j := 1) hC dL_law_252 rfl rfl ?_
  refine mx_iload (j := 5) hC dL_law_253 rfl ?_
  refine mx_bipush (v := 29) hC dL_law_255 (by decide) ?_
  refine mx_iadd hC dL_law_257 ?_
  obtain ⟨ht234, h⟩ := h
  refine mx_callV (inj := mj_jI) (As := [vI (l5 + 29)]) (st := []) hC (ct_X11_today l1 (l5 + 29) M _ h) ty_X11_today tw267 ht234 rfl (Nat.le_of_ble_eq_true rfl) ⟨rfl, rfl, ⟨by decide, by decide⟩, by show _ ≤ 600000; omega, by show _ ≤ 7302250; omega⟩ dL_law_258 (fun r235 M236 h => ?_)
  show mj_X g 261 [(0, vR ((b + 1))), (1, vR l1), (2, vI l2), (3, vI l3), (4, vI l4), (5, vI l5), (6, vI (mj_b l6))] [vI r235] M236 148 3463
  refine mx_iload (j := 5) hC dL_law_261 rfl ?_
  refine mx_icmpne (tgt := 346) hC dL_law_263 (by decide) (fun hc237 => ?_) (fun hc237 => ?_)
  · replace h := mj_nn hc237 h
    refine mx_iconst (v := 0) hC dL_law_346 (by decide) ?_
    exact h.elim
  · replace h := mj_yy hc237 h
    refine mx_sub (L' := [(0, vR (b + 1)), (1, vR l1), (2, vI l2), (3, vI l3), (4, vI l4), (5, vI l5), (6, vI (mj_b l6))]) [0, 1, 2, 3, 4, 5, 6] rfl ?_
    exact show mj_X g 266 [(0, vR (b + 1)), (1, vR l1), (2, vI l2), (3, vI l3), (4, vI l4), (5, vI l5), (6, vI (mj_b l6))] [] M236 148 3463 from (xb_L_law_266 hC hE hA l1 l2 l3 l4 l5 l6 M236 h)
set_option maxHeartbeats 4000000 in
set_option maxRecDepth 100000 in
theorem xb_L_law_242 {g : mj_G} {nm : String} {b Ln : Nat} {xs : Nat → Int32} (hC : mj_C g ⟨R_law, nm, ""⟩ code 19 ret room_1) (hE : mj_EL g) (hA : (mj_aa g).2.2.2 = (b, Ln, xs)) (l1 : Nat) (l2 : Int32) (l3 : Int32) (l4 : Int32) (l5 : Int32) (l6 : Bool) (M : mj_M) (h : vb_L_law_242 xs Ln l1 l2 l3 l4 l5 l6 M) : mj_X g 242 [(0, vR (b + 1)), (1, vR l1), (2, vI l2), (3, vI l3), (4, vI l4), (5, vI l5), (6, vI (mj_b l6))] [] M 148 3463 := by
  simp only [vb_L_law_242] at h
  refine mx_aload_n (j := 1) hC dL_law_242 rfl rfl ?_
  refine mx_iconst (v := 2) hC dL_law_243 (by decide) ?_
  refine mx_iconst (v := 1) hC dL_law_244 (by decide) ?_
  obtain ⟨ht238, h⟩ := h
  refine mx_callV (inj := mj_jI) (As := [vI 2, vI (mj_b true)]) (st := []) hC (ct_X11_breach l1 2 true M _ h) ty_X11_breach tw924 ht238 rfl (Nat.le_of_ble_eq_true rfl) ⟨rfl, rfl, ⟨by decide, by decide⟩, by show _ ≤ 600000; omega, by show _ ≤ 7302250; omega⟩ dL_law_245 (fun r239 M240 h => ?_)
  show mj_X g 248 [(0, vR ((b + 1))), (1, vR l1), (2, vI l2), (3, vI l3), (4, vI l4), (5, vI l5), (6, vI (mj_b l6))] [vI r239] M240 148 3463
  refine mx_iconst (v := 1) hC dL_law_248 (by decide) ?_
  refine mx_icmpne (tgt := 346) hC dL_law_249 (by decide) (fun hc241 => ?_) (fun hc241 => ?_)
  · replace h := mj_nn hc241 h
    refine mx_iconst (v := 0) hC dL_law_346 (by decide) ?_
    exact h.elim
  · replace h := mj_yy hc241 h
    refine mx_sub (L' := [(0, vR (b + 1)), (1, vR l1), (2, vI l2), (3, vI l3), (4, vI l4), (5, vI l5), (6, vI (mj_b l6))]) [0, 1, 2, 3, 4, 5, 6] rfl ?_
    exact show mj_X g 252 [(0, vR (b + 1)), (1, vR l1), (2, vI l2), (3, vI l3), (4, vI l4), (5, vI l5), (6, vI (mj_b l6))] [] M240 148 3463 from (xb_L_law_252 hC hE hA l1 l2 l3 l4 l5 l6 M240 h)
set_option maxHeartbeats 4000000 in
set_option maxRecDepth 100000 in
theorem xb_L_law_230 {g : mj_G} {nm : String} {b Ln : Nat} {xs : Nat → Int32} (hC : mj_C g ⟨R_law, nm, ""⟩ code 19 ret room_1) (hE : mj_EL g) (hA : (mj_aa g).2.2.2 = (b, Ln, xs)) (l1 : Nat) (l2 : Int32) (l3 : Int32) (l4 : Int32) (l5 : Int32) (s0 : Bool) (M : mj_M) (h : vb_L_law_230 xs Ln l1 l2 l3 l4 l5 s0 M) : mj_X g 230 [(0, vR (b + 1)), (1, vR l1), (2, vI l2), (3, vI l3), (4, vI l4), (5, vI l5)] [vI (mj_b s0)] M 148 3463 := by
  simp only [vb_L_law_230] at h
  refine mx_istore (L' := [(6, vI (mj_b s0)), (0, vR ((b + 1))), (1, vR l1), (2, vI l2), (3, vI l3), (4, vI l4), (5, vI l5)]) hC dL_law_230 (by decide) rfl ?_
  refine mx_aload_n (j := 2) hC dL_law_232 rfl rfl ?_
  refine mx_iconst (v := 2) hC dL_law_233 (by decide) ?_
  obtain ⟨ht242, h⟩ := h
  refine mx_callV (inj := mj_jI) (As := [vI 2]) (st := []) hC (ct_X11_forfeit l1 2 M _ h) ty_X11_forfeit tw928 ht242 rfl (Nat.le_of_ble_eq_true rfl) ⟨rfl, rfl, ⟨by decide, by decide⟩, by show _ ≤ 600000; omega, by show _ ≤ 7302250; omega⟩ dL_law_234 (fun r243 M244 h => ?_)
  show mj_X g 237 [(6, vI (mj_b s0)), (0, vR ((b + 1))), (1, vR l1), (2, vI l2), (3, vI l3), (4, vI l4), (5, vI l5)] [vI r243] M244 148 3463
  refine mx_bipush (v := (-5)) hC dL_law_237 (by decide) ?_
  refine mx_icmpne (tgt := 346) hC dL_law_239 (by decide) (fun hc245 => ?_) (fun hc245 => ?_)
  · replace h := mj_nn hc245 h
    refine mx_iconst (v := 0) hC dL_law_346 (by decide) ?_
    exact h.elim
  · replace h := mj_yy hc245 h
    refine mx_sub (L' := [(0, vR (b + 1)), (1, vR l1), (2, vI l2), (3, vI l3), (4, vI l4), (5, vI l5), (6, vI (mj_b s0))]) [1, 2, 3, 4, 5, 6, 0] rfl ?_
    exact show mj_X g 242 [(0, vR (b + 1)), (1, vR l1), (2, vI l2), (3, vI l3), (4, vI l4), (5, vI l5), (6, vI (mj_b s0))] [] M244 148 3463 from (xb_L_law_242 hC hE hA l1 l2 l3 l4 l5 s0 M244 h)
set_option maxHeartbeats 4000000 in
set_option maxRecDepth 100000 in
theorem xb_L_law_216 {g : mj_G} {nm : String} {b Ln : Nat} {xs : Nat → Int32} (hC : mj_C g ⟨R_law, nm, ""⟩ code 19 ret room_1) (hE : mj_EL g) (hA : (mj_aa g).2.2.2 = (b, Ln, xs)) (l1 : Nat) (l2 : Int32) (l3 : Int32) (l4 : Int32) (l5 : Int32) (M : mj_M) (h : vb_L_law_216 xs Ln l1 l2 l3 l4 l5 M) : mj_X g 216 [(0, vR (b + 1)), (1, vR l1), (2, vI l2), (3, vI l3), (4, vI l4), (5, vI l5)] [] M 148 3463 := by
  simp only [vb_L_law_216] at h
  refine mx_aload_n (j := 0) hC dL_law_216 rfl rfl ?_
  refine mx_iconst (v := 4) hC dL_law_217 (by decide) ?_
  refine mx_iconst (v := 2) hC dL_law_218 (by decide) ?_
  refine mx_callS (inj := mj_jI) (As := [vR (b + 1), vI 4, vI 2]) (st := []) hC (ct_L_cell hA 4 2 M _ h) ty_L_cell tw948 rfl (Nat.le_of_ble_eq_true rfl) ⟨rfl, rfl, ⟨by decide, by decide⟩, by show _ ≤ 600000; omega, by show _ ≤ 7302250; omega⟩ dL_law_219 (fun r246 M247 h => ?_)
  show mj_X g 222 [(0, vR ((b + 1))), (1, vR l1), (2, vI l2), (3, vI l3), (4, vI l4), (5, vI l5)] [vI r246] M247 148 3463
  refine mx_ifne (tgt := 229) hC dL_law_222 (by decide) (fun hc248 => ?_) (fun hc248 => ?_)
  · replace h := mj_nn hc248 h
    refine mx_iconst (v := 0) hC dL_law_229 (by decide) ?_
    refine mx_sub (L' := [(0, vR (b + 1)), (1, vR l1), (2, vI l2), (3, vI l3), (4, vI l4), (5, vI l5)]) [0, 1, 2, 3, 4, 5] rfl ?_
    exact show mj_X g 230 [(0, vR (b + 1)), (1, vR l1), (2, vI l2), (3, vI l3), (4, vI l4), (5, vI l5)] [vI (mj_b false)] M247 148 3463 from (xb_L_law_230 hC hE hA l1 l2 l3 l4 l5 false M247 h)
  · replace h := mj_yy hc248 h
    refine mx_iconst (v := 1) hC dL_law_225 (by decide) ?_
    refine mx_goto (tgt := 230) hC dL_law_226 (by decide) ?_
    refine mx_sub (L' := [(0, vR (b + 1)), (1, vR l1), (2, vI l2), (3, vI l3), (4, vI l4), (5, vI l5)]) [0, 1, 2, 3, 4, 5] rfl ?_
    exact show mj_X g 230 [(0, vR (b + 1)), (1, vR l1), (2, vI l2), (3, vI l3), (4, vI l4), (5, vI l5)] [vI (mj_b true)] M247 148 3463 from (xb_L_law_230 hC hE hA l1 l2 l3 l4 l5 true M247 h)
set_option maxHeartbeats 4000000 in
set_option maxRecDepth 100000 in
theorem xb_L_law_202 {g : mj_G} {nm : String} {b Ln : Nat} {xs : Nat → Int32} (hC : mj_C g ⟨R_law, nm, ""⟩ code 19 ret room_1) (hE : mj_EL g) (hA : (mj_aa g).2.2.2 = (b, Ln, xs)) (l1 : Nat) (l2 : Int32) (l3 : Int32) (l4 : Int32) (l5 : Int32) (M : mj_M) (h : vb_L_law_202 xs Ln l1 l2 l3 l4 l5 M) : mj_X g 202 [(0, vR (b + 1)), (1, vR l1), (2, vI l2), (3, vI l3), (4, vI l4), (5, vI l5)] [] M 148 3463 := by
  simp only [vb_L_law_202] at h
  refine mx_aload_n (j := 1) hC dL_law_202 rfl rfl ?_
  refine mx_iconst (v := 1) hC dL_law_203 (by decide) ?_
  refine mx_sipush (v := 300) hC dL_law_204 (by decide) ?_
  refine mx_iconst (v := 0) hC dL_law_207 (by decide) ?_
  obtain ⟨ht249, h⟩ := h
  refine mx_callV (inj := mj_jI) (As := [vI 1, vI 300, vI 0]) (st := []) hC (ct_X11_rent l1 1 300 0 M _ h) ty_X11_rent tw443 ht249 rfl (Nat.le_of_ble_eq_true rfl) ⟨rfl, rfl, ⟨by decide, by decide⟩, by show _ ≤ 600000; omega, by show _ ≤ 7302250; omega⟩ dL_law_208 (fun r250 M251 h => ?_)
  show mj_X g 211 [(0, vR ((b + 1))), (1, vR l1), (2, vI l2), (3, vI l3), (4, vI l4), (5, vI l5)] [vI r250] M251 148 3463
  refine mx_ifeq (tgt := 216) hC dL_law_211 (by decide) (fun hc252 => ?_) (fun hc252 => ?_)
  · replace h := mj_yy hc252 h
    refine mx_sub (L' := [(0, vR (b + 1)), (1, vR l1), (2, vI l2), (3, vI l3), (4, vI l4), (5, vI l5)]) [0, 1, 2, 3, 4, 5] rfl ?_
    exact show mj_X g 216 [(0, vR (b + 1)), (1, vR l1), (2, vI l2), (3, vI l3), (4, vI l4), (5, vI l5)] [] M251 148 3463 from (xb_L_law_216 hC hE hA l1 l2 l3 l4 l5 M251 h)
  · replace h := mj_nn hc252 h
    refine mx_iconst (v := 0) hC dL_law_214 (by decide) ?_
    exact h.elim
set_option maxHeartbeats 4000000 in
set_option maxRecDepth 100000 in
theorem xb_L_law_190 {g : mj_G} {nm : String} {b Ln : Nat} {xs : Nat → Int32} (hC : mj_C g ⟨R_law, nm, ""⟩ code 19 ret room_1) (hE : mj_EL g) (hA : (mj_aa g).2.2.2 = (b, Ln, xs)) (l1 : Nat) (l2 : Int32) (l3 : Int32) (l4 : Int32) (l5 : Int32) (M : mj_M) (h : vb_L_law_190 xs Ln l1 l2 l3 l4 l5 M) : mj_X g 190 [(0, vR (b + 1)), (1, vR l1), (2, vI l2), (3, vI l3), (4, vI l4), (5, vI l5)] [] M 148 3463 := by
  simp only [vb_L_law_190] at h
  refine mx_aload_n (j := 1) hC dL_law_190 rfl rfl ?_
  refine mx_iconst (v := 2) hC dL_law_191 (by decide) ?_
  refine mx_sipush (v := 500) hC dL_law_192 (by decide) ?_
  refine mx_iconst (v := 0) hC dL_law_195 (by decide) ?_
  obtain ⟨ht253, h⟩ := h
  refine mx_callV (inj := mj_jI) (As := [vI 2, vI 500, vI 0]) (st := []) hC (ct_X11_rent l1 2 500 0 M _ h) ty_X11_rent tw443 ht253 rfl (Nat.le_of_ble_eq_true rfl) ⟨rfl, rfl, ⟨by decide, by decide⟩, by show _ ≤ 600000; omega, by show _ ≤ 7302250; omega⟩ dL_law_196 (fun r254 M255 h => ?_)
  show mj_X g 199 [(0, vR ((b + 1))), (1, vR l1), (2, vI l2), (3, vI l3), (4, vI l4), (5, vI l5)] [vI r254] M255 148 3463
  refine mx_ifne (tgt := 214) hC dL_law_199 (by decide) (fun hc256 => ?_) (fun hc256 => ?_)
  · replace h := mj_nn hc256 h
    refine mx_iconst (v := 0) hC dL_law_214 (by decide) ?_
    exact h.elim
  · replace h := mj_yy hc256 h
    refine mx_sub (L' := [(0, vR (b + 1)), (1, vR l1), (2, vI l2), (3, vI l3), (4, vI l4), (5, vI l5)]) [0, 1, 2, 3, 4, 5] rfl ?_
    exact show mj_X g 202 [(0, vR (b + 1)), (1, vR l1), (2, vI l2), (3, vI l3), (4, vI l4), (5, vI l5)] [] M255 148 3463 from (xb_L_law_202 hC hE hA l1 l2 l3 l4 l5 M255 h)
set_option maxHeartbeats 4000000 in
set_option maxRecDepth 100000 in
theorem xb_L_law_168 {g : mj_G} {nm : String} {b Ln : Nat} {xs : Nat → Int32} (hC : mj_C g ⟨R_law, nm, ""⟩ code 19 ret room_1) (hE : mj_EL g) (hA : (mj_aa g).2.2.2 = (b, Ln, xs)) (l1 : Nat) (l2 : Int32) (l3 : Int32) (l4 : Int32) (M : mj_M) (h : vb_L_law_168 xs Ln l1 l2 l3 l4 M) : mj_X g 168 [(0, vR (b + 1)), (1, vR l1), (2, vI l2), (3, vI l3), (4, vI l4)] [] M 148 3463 := by
  simp only [vb_L_law_168] at h
  refine mx_bipush (v := 10) hC dL_law_168 (by decide) ?_
  refine mx_aload_n (j := 0) hC dL_law_170 rfl rfl ?_
  refine mx_iconst (v := 3) hC dL_law_171 (by decide) ?_
  refine mx_sipush (v := 800) hC dL_law_172 (by decide) ?_
  refine mx_callS (inj := mj_jI) (As := [vR (b + 1), vI 3, vI 800]) (st := [vI 10]) hC (ct_L_cell hA 3 800 M _ h) ty_L_cell tw948 rfl (Nat.le_of_ble_eq_true rfl) ⟨rfl, rfl, ⟨by decide, by decide⟩, by show _ ≤ 600000; omega, by show _ ≤ 7302250; omega⟩ dL_law_175 (fun r257 M258 h => ?_)
  show mj_X g 178 [(0, vR ((b + 1))), (1, vR l1), (2, vI l2), (3, vI l3), (4, vI l4)] [vI r257, vI 10] M258 148 3463
  refine mx_iadd hC dL_law_178 ?_
  refine mx_istore (L' := [(5, vI (10 + r257)), (0, vR ((b + 1))), (1, vR l1), (2, vI l2), (3, vI l3), (4, vI l4)]) hC dL_law_179 (by decide) rfl ?_
  refine mx_aload_n (j := 2) hC dL_law_181 rfl rfl ?_
  refine mx_iload (j := 0) hC dL_law_182 rfl ?_
  obtain ⟨ht259, h⟩ := h
  refine mx_callV (inj := mj_jI) (As := [vI (10 + r257)]) (st := []) hC (ct_X11_today l1 (10 + r257) M258 _ h) ty_X11_today tw267 ht259 rfl (Nat.le_of_ble_eq_true rfl) ⟨rfl, rfl, ⟨by decide, by decide⟩, by show _ ≤ 600000; omega, by show _ ≤ 7302250; omega⟩ dL_law_184 (fun r260 M261 h => ?_)
  show mj_X g 187 [(5, vI (10 + r257)), (0, vR ((b + 1))), (1, vR l1), (2, vI l2), (3, vI l3), (4, vI l4)] [vI r260] M261 148 3463
  refine mx_ifne (tgt := 214) hC dL_law_187 (by decide) (fun hc262 => ?_) (fun hc262 => ?_)
  · replace h := mj_nn hc262 h
    refine mx_iconst (v := 0) hC dL_law_214 (by decide) ?_
    exact h.elim
  · replace h := mj_yy hc262 h
    refine mx_sub (L' := [(0, vR (b + 1)), (1, vR l1), (2, vI l2), (3, vI l3), (4, vI l4), (5, vI (10 + r257))]) [1, 2, 3, 4, 5, 0] rfl ?_
    exact show mj_X g 190 [(0, vR (b + 1)), (1, vR l1), (2, vI l2), (3, vI l3), (4, vI l4), (5, vI (10 + r257))] [] M261 148 3463 from (xb_L_law_190 hC hE hA l1 l2 l3 l4 (10 + r257) M261 h)
set_option maxHeartbeats 4000000 in
set_option maxRecDepth 100000 in
theorem xb_L_law_109 {g : mj_G} {nm : String} {b Ln : Nat} {xs : Nat → Int32} (hC : mj_C g ⟨R_law, nm, ""⟩ code 19 ret room_1) (hE : mj_EL g) (hA : (mj_aa g).2.2.2 = (b, Ln, xs)) : ∀ (f : Nat) (l1 : Nat) (l2 : Int32) (l3 : Int32) (l4 : Int32) (l5 : Int32) (M : mj_M) (k n : Nat), k + 2 * f ≤ 148 → n + 52 * f ≤ 3463 → vb_L_law_109 xs Ln f l1 l2 l3 l4 l5 M → mj_X g 109 [(0, vR (b + 1)), (1, vR l1), (2, vI l2), (3, vI l3), (4, vI l4), (5, vI l5)] [] M k n := by
  intro f
  induction f with
  | zero => exact fun _ _ _ _ _ _ _ _ _ _ h => absurd h (fun z => z)
  | succ f ih =>
    intro l1 l2 l3 l4 l5 M k n hk hn h
    simp only [vb_L_law_109] at h
    refine mx_iload (j := 5) hC dL_law_109 rfl ?_
    refine mx_iconst (v := 4) hC dL_law_111 (by decide) ?_
    refine mx_icmpge (tgt := 168) hC dL_law_112 (by decide) (fun hc263 => ?_) (fun hc263 => ?_)
    · replace h := mj_yy hc263 h
      refine mx_sub (L' := [(0, vR (b + 1)), (1, vR l1), (2, vI l2), (3, vI l3), (4, vI l4)]) [0, 1, 2, 3, 4] rfl ?_
      refine mx_widen (k' := 148) (n' := 3463) (by omega) (by omega) ?_
      exact show mj_X g 168 [(0, vR (b + 1)), (1, vR l1), (2, vI l2), (3, vI l3), (4, vI l4)] [] M 148 3463 from (xb_L_law_168 hC hE hA l1 l2 l3 l4 M h)
    · replace h := mj_nn hc263 h
      refine mx_aload_n (j := 1) hC dL_law_115 rfl rfl ?_
      refine mx_bipush (v := 102) hC dL_law_116 (by decide) ?_
      obtain ⟨ht264, h⟩ := h
      refine mx_callV (inj := mj_jI) (As := [vI 102]) (st := []) hC (ct_X11_say l1 102 M _ h) ty_X11_say tw453 ht264 rfl (Nat.le_of_ble_eq_true rfl) ⟨rfl, rfl, ⟨by decide, by decide⟩, by show _ ≤ 600000; omega, by show _ ≤ 7302250; omega⟩ dL_law_118 (fun r265 M266 h => ?_)
      show mj_X g 121 [(0, vR ((b + 1))), (1, vR l1), (2, vI l2), (3, vI l3), (4, vI l4), (5, vI l5)] [vI r265] M266 k n
      refine mx_iconst (v := 1) hC dL_law_121 (by decide) ?_
      refine mx_icmpne (tgt := 160) hC dL_law_122 (by decide) (fun hc267 => ?_) (fun hc267 => ?_)
      · replace h := mj_nn hc267 h
        refine mx_iconst (v := 0) hC dL_law_160 (by decide) ?_
        exact h.elim
      · replace h := mj_yy hc267 h
        refine mx_aload_n (j := 1) hC dL_law_125 rfl rfl ?_
        refine mx_bipush (v := 62) hC dL_law_126 (by decide) ?_
        obtain ⟨ht268, h⟩ := h
        refine mx_callV (inj := mj_jI) (As := [vI 62]) (st := []) hC (ct_X11_say l1 62 M266 _ h) ty_X11_say tw453 ht268 rfl (Nat.le_of_ble_eq_true rfl) ⟨rfl, rfl, ⟨by decide, by decide⟩, by show _ ≤ 600000; omega, by show _ ≤ 7302250; omega⟩ dL_law_128 (fun r269 M270 h => ?_)
        show mj_X g 131 [(0, vR ((b + 1))), (1, vR l1), (2, vI l2), (3, vI l3), (4, vI l4), (5, vI l5)] [vI r269] M270 k n
        refine mx_iconst (v := 2) hC dL_law_131 (by decide) ?_
        refine mx_icmpne (tgt := 160) hC dL_law_132 (by decide) (fun hc271 => ?_) (fun hc271 => ?_)
        · replace h := mj_nn hc271 h
          refine mx_iconst (v := 0) hC dL_law_160 (by decide) ?_
          exact h.elim
        · replace h := mj_yy hc271 h
          refine mx_aload_n (j := 1) hC dL_law_135 rfl rfl ?_
          refine mx_bipush (v := 48) hC dL_law_136 (by decide) ?_
          obtain ⟨ht272, h⟩ := h
          refine mx_callV (inj := mj_jI) (As := [vI 48]) (st := []) hC (ct_X11_say l1 48 M270 _ h) ty_X11_say tw453 ht272 rfl (Nat.le_of_ble_eq_true rfl) ⟨rfl, rfl, ⟨by decide, by decide⟩, by show _ ≤ 600000; omega, by show _ ≤ 7302250; omega⟩ dL_law_138 (fun r273 M274 h => ?_)
          show mj_X g 141 [(0, vR ((b + 1))), (1, vR l1), (2, vI l2), (3, vI l3), (4, vI l4), (5, vI l5)] [vI r273] M274 k n
          refine mx_iconst (v := 3) hC dL_law_141 (by decide) ?_
          refine mx_icmpne (tgt := 160) hC dL_law_142 (by decide) (fun hc275 => ?_) (fun hc275 => ?_)
          · replace h := mj_nn hc275 h
            refine mx_iconst (v := 0) hC dL_law_160 (by decide) ?_
            exact h.elim
          · replace h := mj_yy hc275 h
            refine mx_aload_n (j := 1) hC dL_law_145 rfl rfl ?_
            refine mx_iload (j := 5) hC dL_law_146 rfl ?_
            refine mx_bipush (v := 10) hC dL_law_148 (by decide) ?_
            obtain ⟨ht276, h⟩ := h
            refine mx_callV (inj := mj_jI) (As := [vI l5, vI 10]) (st := []) hC (ct_X11_act l1 l5 10 M274 _ h) ty_X11_act tw464 ht276 rfl (Nat.le_of_ble_eq_true rfl) ⟨rfl, rfl, ⟨by decide, by decide⟩, by show _ ≤ 600000; omega, by show _ ≤ 7302250; omega⟩ dL_law_150 (fun r277 M278 h => ?_)
            show mj_X g 153 [(0, vR ((b + 1))), (1, vR l1), (2, vI l2), (3, vI l3), (4, vI l4), (5, vI l5)] [vI r277] M278 (k + 2) (n + 52)
            refine mx_iload (j := 5) hC dL_law_153 rfl ?_
            refine mx_iconst (v := 1) hC dL_law_155 (by decide) ?_
            refine mx_iadd hC dL_law_156 ?_
            refine mx_icmpeq (tgt := 162) hC dL_law_157 (by decide) (fun hc279 => ?_) (fun hc279 => ?_)
            · replace h := mj_yy hc279 h
              refine mx_iinc (j := 5) (v := l5 + 1) (L' := [(5, vI (l5 + 1)), (0, vR ((b + 1))), (1, vR l1), (2, vI l2), (3, vI l3), (4, vI l4)]) hC dL_law_162 rfl rfl (by decide) rfl ?_
              refine mx_goto (tgt := 109) hC dL_law_165 (by decide) ?_
              refine mx_sub (L' := [(0, vR (b + 1)), (1, vR l1), (2, vI l2), (3, vI l3), (4, vI l4), (5, vI (l5 + 1))]) [1, 2, 3, 4, 5, 0] rfl ?_
              exact show mj_X g 109 [(0, vR (b + 1)), (1, vR l1), (2, vI l2), (3, vI l3), (4, vI l4), (5, vI (l5 + 1))] [] M278 (k + 2) (n + 52) from (ih l1 l2 l3 l4 (l5 + 1) M278 _ _ (by omega) (by omega) h)
            · replace h := mj_nn hc279 h
              refine mx_iconst (v := 0) hC dL_law_160 (by decide) ?_
              exact h.elim
set_option maxHeartbeats 4000000 in
set_option maxRecDepth 100000 in
theorem xb_L_law_90 {g : mj_G} {nm : String} {b Ln : Nat} {xs : Nat → Int32} (hC : mj_C g ⟨R_law, nm, ""⟩ code 19 ret room_1) (hE : mj_EL g) (hA : (mj_aa g).2.2.2 = (b, Ln, xs)) (l1 : Nat) (l2 : Int32) (l3 : Int32) (l4 : Int32) (M : mj_M) (h : vb_L_law_90 xs Ln l1 l2 l3 l4 M) : mj_X g 90 [(0, vR (b + 1)), (1, vR l1), (2, vI l2), (3, vI l3), (4, vI l4)] [] M 27 328 := by
  simp only [vb_L_law_90] at h
  refine mx_aload_n (j := 1) hC dL_law_90 rfl rfl ?_
  refine mx_iconst (v := 2) hC dL_law_91 (by decide) ?_
  refine mx_iconst (v := 5) hC dL_law_92 (by decide) ?_
  refine mx_iconst (v := 5) hC dL_law_93 (by decide) ?_
  refine mx_iload (j := 4) hC dL_law_94 rfl ?_
  refine mx_iconst (v := 3) hC dL_law_96 (by decide) ?_
  obtain ⟨ht280, h⟩ := h
  refine mx_callV (inj := mj_jI) (As := [vI 2, vI 5, vI 5, vI l4, vI 3]) (st := []) hC (ct_X11_lease l1 2 5 5 l4 3 M _ h) ty_X11_lease tw373 ht280 rfl (Nat.le_of_ble_eq_true rfl) ⟨rfl, rfl, ⟨by decide, by decide⟩, by show _ ≤ 600000; omega, by show _ ≤ 7302250; omega⟩ dL_law_97 (fun r281 M282 h => ?_)
  show mj_X g 100 [(0, vR ((b + 1))), (1, vR l1), (2, vI l2), (3, vI l3), (4, vI l4)] [vI r281] M282 28 343
  refine mx_iconst (v := 3) hC dL_law_100 (by decide) ?_
  refine mx_icmpeq (tgt := 106) hC dL_law_101 (by decide) (fun hc283 => ?_) (fun hc283 => ?_)
  · replace h := mj_yy hc283 h
    refine mx_iconst (v := 0) hC dL_law_106 (by decide) ?_
    refine mx_istore (L' := [(5, vI 0), (0, vR ((b + 1))), (1, vR l1), (2, vI l2), (3, vI l3), (4, vI l4)]) hC dL_law_107 (by decide) rfl ?_
    refine mx_sub (L' := [(0, vR (b + 1)), (1, vR l1), (2, vI l2), (3, vI l3), (4, vI l4), (5, vI 0)]) [1, 2, 3, 4, 5, 0] rfl ?_
    exact show mj_X g 109 [(0, vR (b + 1)), (1, vR l1), (2, vI l2), (3, vI l3), (4, vI l4), (5, vI 0)] [] M282 28 343 from (xb_L_law_109 hC hE hA 60 l1 l2 l3 l4 0 M282 _ _ (by omega) (by omega) h)
  · replace h := mj_nn hc283 h
    refine mx_iconst (v := 0) hC dL_law_104 (by decide) ?_
    exact h.elim
set_option maxHeartbeats 4000000 in
set_option maxRecDepth 100000 in
theorem xb_L_law_76 {g : mj_G} {nm : String} {b Ln : Nat} {xs : Nat → Int32} (hC : mj_C g ⟨R_law, nm, ""⟩ code 19 ret room_1) (hE : mj_EL g) (hA : (mj_aa g).2.2.2 = (b, Ln, xs)) (l1 : Nat) (l2 : Int32) (l3 : Int32) (l4 : Int32) (M : mj_M) (h : vb_L_law_76 xs Ln l1 l2 l3 l4 M) : mj_X g 76 [(0, vR (b + 1)), (1, vR l1), (2, vI l2), (3, vI l3), (4, vI l4)] [] M 26 313 := by
  simp only [vb_L_law_76] at h
  refine mx_aload_n (j := 1) hC dL_law_76 rfl rfl ?_
  refine mx_iconst (v := 1) hC dL_law_77 (by decide) ?_
  refine mx_bipush (v := 7) hC dL_law_78 (by decide) ?_
  refine mx_iconst (v := 0) hC dL_law_80 (by decide) ?_
  refine mx_iload_n (j := 3) hC dL_law_81 rfl rfl ?_
  refine mx_iconst (v := 2) hC dL_law_82 (by decide) ?_
  obtain ⟨ht284, h⟩ := h
  refine mx_callV (inj := mj_jI) (As := [vI 1, vI 7, vI 0, vI l3, vI 2]) (st := []) hC (ct_X11_lease l1 1 7 0 l3 2 M _ h) ty_X11_lease tw373 ht284 rfl (Nat.le_of_ble_eq_true rfl) ⟨rfl, rfl, ⟨by decide, by decide⟩, by show _ ≤ 600000; omega, by show _ ≤ 7302250; omega⟩ dL_law_83 (fun r285 M286 h => ?_)
  show mj_X g 86 [(0, vR ((b + 1))), (1, vR l1), (2, vI l2), (3, vI l3), (4, vI l4)] [vI r285] M286 27 328
  refine mx_iconst (v := 2) hC dL_law_86 (by decide) ?_
  refine mx_icmpne (tgt := 104) hC dL_law_87 (by decide) (fun hc287 => ?_) (fun hc287 => ?_)
  · replace h := mj_nn hc287 h
    refine mx_iconst (v := 0) hC dL_law_104 (by decide) ?_
    exact h.elim
  · replace h := mj_yy hc287 h
    refine mx_sub (L' := [(0, vR (b + 1)), (1, vR l1), (2, vI l2), (3, vI l3), (4, vI l4)]) [0, 1, 2, 3, 4] rfl ?_
    exact show mj_X g 90 [(0, vR (b + 1)), (1, vR l1), (2, vI l2), (3, vI l3), (4, vI l4)] [] M286 27 328 from (xb_L_law_90 hC hE hA l1 l2 l3 l4 M286 h)
set_option maxHeartbeats 4000000 in
set_option maxRecDepth 100000 in
theorem xb_L_law_62 {g : mj_G} {nm : String} {b Ln : Nat} {xs : Nat → Int32} (hC : mj_C g ⟨R_law, nm, ""⟩ code 19 ret room_1) (hE : mj_EL g) (hA : (mj_aa g).2.2.2 = (b, Ln, xs)) (l1 : Nat) (l2 : Int32) (l3 : Int32) (l4 : Int32) (M : mj_M) (h : vb_L_law_62 xs Ln l1 l2 l3 l4 M) : mj_X g 62 [(0, vR (b + 1)), (1, vR l1), (2, vI l2), (3, vI l3), (4, vI l4)] [] M 25 298 := by
  simp only [vb_L_law_62] at h
  refine mx_aload_n (j := 1) hC dL_law_62 rfl rfl ?_
  refine mx_iconst (v := 0) hC dL_law_63 (by decide) ?_
  refine mx_bipush (v := 7) hC dL_law_64 (by decide) ?_
  refine mx_iconst (v := 0) hC dL_law_66 (by decide) ?_
  refine mx_iload_n (j := 2) hC dL_law_67 rfl rfl ?_
  refine mx_iconst (v := 1) hC dL_law_68 (by decide) ?_
  obtain ⟨ht288, h⟩ := h
  refine mx_callV (inj := mj_jI) (As := [vI 0, vI 7, vI 0, vI l2, vI 1]) (st := []) hC (ct_X11_lease l1 0 7 0 l2 1 M _ h) ty_X11_lease tw373 ht288 rfl (Nat.le_of_ble_eq_true rfl) ⟨rfl, rfl, ⟨by decide, by decide⟩, by show _ ≤ 600000; omega, by show _ ≤ 7302250; omega⟩ dL_law_69 (fun r289 M290 h => ?_)
  show mj_X g 72 [(0, vR ((b + 1))), (1, vR l1), (2, vI l2), (3, vI l3), (4, vI l4)] [vI r289] M290 26 313
  refine mx_iconst (v := 1) hC dL_law_72 (by decide) ?_
  refine mx_icmpne (tgt := 104) hC dL_law_73 (by decide) (fun hc291 => ?_) (fun hc291 => ?_)
  · replace h := mj_nn hc291 h
    refine mx_iconst (v := 0) hC dL_law_104 (by decide) ?_
    exact h.elim
  · replace h := mj_yy hc291 h
    refine mx_sub (L' := [(0, vR (b + 1)), (1, vR l1), (2, vI l2), (3, vI l3), (4, vI l4)]) [0, 1, 2, 3, 4] rfl ?_
    exact show mj_X g 76 [(0, vR (b + 1)), (1, vR l1), (2, vI l2), (3, vI l3), (4, vI l4)] [] M290 26 313 from (xb_L_law_76 hC hE hA l1 l2 l3 l4 M290 h)
set_option maxHeartbeats 4000000 in
set_option maxRecDepth 100000 in
theorem xb_L_law_8 {g : mj_G} {nm : String} {b Ln : Nat} {xs : Nat → Int32} (hC : mj_C g ⟨R_law, nm, ""⟩ code 19 ret room_1) (hE : mj_EL g) (hA : (mj_aa g).2.2.2 = (b, Ln, xs)) (l1 : Nat) (M : mj_M) (h : vb_L_law_8 xs Ln l1 M) : mj_X g 8 [(0, vR (b + 1)), (1, vR l1)] [] M 24 283 := by
  simp only [vb_L_law_8] at h
  refine mx_sipush (v := 3000) hC dL_law_8 (by decide) ?_
  refine mx_aload_n (j := 0) hC dL_law_11 rfl rfl ?_
  refine mx_iconst (v := 0) hC dL_law_12 (by decide) ?_
  refine mx_sipush (v := 30000) hC dL_law_13 (by decide) ?_
  refine mx_callS (inj := mj_jI) (As := [vR (b + 1), vI 0, vI 30000]) (st := [vI 3000]) hC (ct_L_cell hA 0 30000 M _ h) ty_L_cell tw948 rfl (Nat.le_of_ble_eq_true rfl) ⟨rfl, rfl, ⟨by decide, by decide⟩, by show _ ≤ 600000; omega, by show _ ≤ 7302250; omega⟩ dL_law_16 (fun r292 M293 h => ?_)
  show mj_X g 19 [(0, vR ((b + 1))), (1, vR l1)] [vI r292, vI 3000] M293 24 283
  refine mx_iadd hC dL_law_19 ?_
  refine mx_istore_n (L' := [(2, vI (3000 + r292)), (0, vR ((b + 1))), (1, vR l1)]) hC dL_law_20 rfl (by decide) rfl ?_
  refine mx_sipush (v := 2000) hC dL_law_21 (by decide) ?_
  refine mx_aload_n (j := 1) hC dL_law_24 rfl rfl ?_
  refine mx_iconst (v := 1) hC dL_law_25 (by decide) ?_
  refine mx_iload_n (j := 0) hC dL_law_26 rfl rfl ?_
  refine mx_sipush (v := 1999) hC dL_law_27 (by decide) ?_
  refine mx_isub hC dL_law_30 ?_
  refine mx_callS (inj := mj_jI) (As := [vR (b + 1), vI 1, vI ((3000 + r292) - 1999)]) (st := [vI 2000]) hC (ct_L_cell hA 1 ((3000 + r292) - 1999) M293 _ h) ty_L_cell tw948 rfl (Nat.le_of_ble_eq_true rfl) ⟨rfl, rfl, ⟨by decide, by decide⟩, by show _ ≤ 600000; omega, by show _ ≤ 7302250; omega⟩ dL_law_31 (fun r294 M295 h => ?_)
  show mj_X g 34 [(2, vI (3000 + r292)), (0, vR ((b + 1))), (1, vR l1)] [vI r294, vI 2000] M295 24 283
  refine mx_iadd hC dL_law_34 ?_
  refine mx_istore_n (L' := [(3, vI (2000 + r294)), (2, vI (3000 + r292)), (0, vR ((b + 1))), (1, vR l1)]) hC dL_law_35 rfl (by decide) rfl ?_
  refine mx_sipush (v := 1500) hC dL_law_36 (by decide) ?_
  refine mx_aload_n (j := 2) hC dL_law_39 rfl rfl ?_
  refine mx_iconst (v := 2) hC dL_law_40 (by decide) ?_
  refine mx_iload_n (j := 0) hC dL_law_41 rfl rfl ?_
  refine mx_sipush (v := 1499) hC dL_law_42 (by decide) ?_
  refine mx_isub hC dL_law_45 ?_
  refine mx_callS (inj := mj_jI) (As := [vR (b + 1), vI 2, vI ((2000 + r294) - 1499)]) (st := [vI 1500]) hC (ct_L_cell hA 2 ((2000 + r294) - 1499) M295 _ h) ty_L_cell tw948 rfl (Nat.le_of_ble_eq_true rfl) ⟨rfl, rfl, ⟨by decide, by decide⟩, by show _ ≤ 600000; omega, by show _ ≤ 7302250; omega⟩ dL_law_46 (fun r296 M297 h => ?_)
  show mj_X g 49 [(3, vI (2000 + r294)), (2, vI (3000 + r292)), (0, vR ((b + 1))), (1, vR l1)] [vI r296, vI 1500] M297 24 283
  refine mx_iadd hC dL_law_49 ?_
  refine mx_istore (L' := [(4, vI (1500 + r296)), (3, vI (2000 + r294)), (2, vI (3000 + r292)), (0, vR ((b + 1))), (1, vR l1)]) hC dL_law_50 (by decide) rfl ?_
  refine mx_aload_n (j := 4) hC dL_law_52 rfl rfl ?_
  refine mx_bipush (v := 7) hC dL_law_53 (by decide) ?_
  refine mx_iconst (v := 0) hC dL_law_55 (by decide) ?_
  obtain ⟨ht298, h⟩ := h
  refine mx_callV (inj := mj_jI) (As := [vI 7, vI 0]) (st := []) hC (ct_X11_whole l1 7 0 M297 _ h) ty_X11_whole tw275 ht298 rfl (Nat.le_of_ble_eq_true rfl) ⟨rfl, rfl, ⟨by decide, by decide⟩, by show _ ≤ 600000; omega, by show _ ≤ 7302250; omega⟩ dL_law_56 (fun r299 M300 h => ?_)
  show mj_X g 59 [(4, vI (1500 + r296)), (3, vI (2000 + r294)), (2, vI (3000 + r292)), (0, vR ((b + 1))), (1, vR l1)] [vI r299] M300 25 298
  refine mx_ifne (tgt := 104) hC dL_law_59 (by decide) (fun hc301 => ?_) (fun hc301 => ?_)
  · replace h := mj_nn hc301 h
    refine mx_iconst (v := 0) hC dL_law_104 (by decide) ?_
    exact h.elim
  · replace h := mj_yy hc301 h
    refine mx_sub (L' := [(0, vR (b + 1)), (1, vR l1), (2, vI (3000 + r292)), (3, vI (2000 + r294)), (4, vI (1500 + r296))]) [3, 4, 2, 1, 0] rfl ?_
    exact show mj_X g 62 [(0, vR (b + 1)), (1, vR l1), (2, vI (3000 + r292)), (3, vI (2000 + r294)), (4, vI (1500 + r296))] [] M300 25 298 from (xb_L_law_62 hC hE hA l1 (3000 + r292) (2000 + r294) (1500 + r296) M300 h)
set_option maxHeartbeats 4000000 in
set_option maxRecDepth 100000 in
theorem xb_L_law_0 {g : mj_G} {nm : String} {b Ln : Nat} {xs : Nat → Int32} (hC : mj_C g ⟨R_law, nm, ""⟩ code 19 ret room_1) (hE : mj_EL g) (hA : (mj_aa g).2.2.2 = (b, Ln, xs)) (M : mj_M) (h : vc_L_law xs Ln M) : mj_X g 0 [(0, vR (b + 1))] [] M 0 0 := by
  simp only [vc_L_law] at h
  refine mx_new (k' := 1) (n' := 8) hC tk11 tw22 tw23 tw1 ⟨rfl, rfl, by decide, by decide⟩ dL_law_0 ?_
  obtain ⟨M302, eM302⟩ : ∃ z : mj_M, z = mj_new M 11 := ⟨_, rfl⟩
  replace h := h M302 eM302
  have ht303 : mj_tag M302 (mj_nx M) = 12 := by rw [eM302]; exact mj_u1_at _
  refine mx_setM eM302.symm ?_
  refine mx_dup hC dL_law_3 rfl ?_
  obtain ⟨hn304, h⟩ := h
  refine mx_callI (As := []) (st := [vR (mj_nx M)]) hC (ct_X11_init (mj_nx M) M302 _ h) ty_X11_init tw24 hn304 rfl (Nat.le_of_ble_eq_true rfl) ⟨rfl, rfl, ⟨by decide, by decide⟩, by show _ ≤ 600000; omega, by show _ ≤ 7302250; omega⟩ dL_law_4 (fun _ M305 h => ?_)
  show mj_X g 7 [(0, vR ((b + 1)))] [vR (mj_nx M)] M305 24 283
  refine mx_astore_n (L' := [(1, vR (mj_nx M)), (0, vR ((b + 1)))]) hC dL_law_7 rfl (by decide) rfl ?_
  refine mx_sub (L' := [(0, vR (b + 1)), (1, vR (mj_nx M))]) [1, 0] rfl ?_
  exact show mj_X g 8 [(0, vR (b + 1)), (1, vR (mj_nx M))] [] M305 24 283 from (xb_L_law_8 hC hE hA (mj_nx M) M305 h)

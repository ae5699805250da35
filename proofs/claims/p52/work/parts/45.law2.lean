set_option maxHeartbeats 4000000 in
set_option maxRecDepth 100000 in
theorem xb_L_law_633 {g : mj_G} {nm : String} {b Ln : Nat} {xs : Nat → Int32} (hC : mj_C g ⟨R_law, nm, ""⟩ code 19 ret room_1) (hE : mj_EL g) (hA : (mj_aa g).2.2.2 = (b, Ln, xs)) (l1 : Nat) (l2 : Int32) (l3 : Int32) (l4 : Int32) (l8 : Bool) (l12 : Int32) (M : mj_M) (h : vb_L_law_633 xs Ln l1 l2 l3 l4 l8 l12 M) : mj_X g 633 [(0, vR (b + 1)), (1, vR l1), (2, vI l2), (3, vI l3), (4, vI l4), (8, vI (mj_b l8)), (12, vI l12)] [] M 149 3478 := by
  simp only [vb_L_law_633] at h
  refine mx_aload_n (j := 0) hC dL_law_633 rfl rfl ?_
  refine mx_bipush (v := 7) hC dL_law_634 (by decide) ?_
  refine mx_iconst (v := 2) hC dL_law_636 (by decide) ?_
  refine mx_callS (inj := mj_jI) (As := [vR (b + 1), vI 7, vI 2]) (st := []) hC (ct_L_cell hA 7 2 M _ h) ty_L_cell tw948 rfl (Nat.le_of_ble_eq_true rfl) ⟨rfl, rfl, ⟨by decide, by decide⟩, by show _ ≤ 600000; omega, by show _ ≤ 7302250; omega⟩ dL_law_637 (fun r158 M159 h => ?_)
  show mj_X g 640 [(0, vR ((b + 1))), (1, vR l1), (2, vI l2), (3, vI l3), (4, vI l4), (8, vI (mj_b l8)), (12, vI l12)] [vI r158] M159 149 3478
  refine mx_istore (L' := [(13, vI r158), (0, vR ((b + 1))), (1, vR l1), (2, vI l2), (3, vI l3), (4, vI l4), (8, vI (mj_b l8)), (12, vI l12)]) hC dL_law_640 (by decide) rfl ?_
  refine mx_iload (j := 0) hC dL_law_642 rfl ?_
  refine mx_iconst (v := 1) hC dL_law_644 (by decide) ?_
  refine mx_icmpne (tgt := 652) hC dL_law_645 (by decide) (fun hc160 => ?_) (fun hc160 => ?_)
  · replace h := mj_nn hc160 h
    refine mx_iconst (v := 3) hC dL_law_652 (by decide) ?_
    refine mx_sub (L' := [(0, vR (b + 1)), (1, vR l1), (2, vI l2), (3, vI l3), (4, vI l4), (8, vI (mj_b l8)), (12, vI l12), (13, vI r158)]) [1, 2, 3, 4, 5, 6, 7, 0] rfl ?_
    exact show mj_X g 653 [(0, vR (b + 1)), (1, vR l1), (2, vI l2), (3, vI l3), (4, vI l4), (8, vI (mj_b l8)), (12, vI l12), (13, vI r158)] [vI 3] M159 149 3478 from (xb_L_law_653 hC hE hA l1 l2 l3 l4 l8 l12 r158 3 M159 h)
  · replace h := mj_yy hc160 h
    refine mx_iconst (v := 2) hC dL_law_648 (by decide) ?_
    refine mx_goto (tgt := 653) hC dL_law_649 (by decide) ?_
    refine mx_sub (L' := [(0, vR (b + 1)), (1, vR l1), (2, vI l2), (3, vI l3), (4, vI l4), (8, vI (mj_b l8)), (12, vI l12), (13, vI r158)]) [1, 2, 3, 4, 5, 6, 7, 0] rfl ?_
    exact show mj_X g 653 [(0, vR (b + 1)), (1, vR l1), (2, vI l2), (3, vI l3), (4, vI l4), (8, vI (mj_b l8)), (12, vI l12), (13, vI r158)] [vI 2] M159 149 3478 from (xb_L_law_653 hC hE hA l1 l2 l3 l4 l8 l12 r158 2 M159 h)
set_option maxHeartbeats 4000000 in
set_option maxRecDepth 100000 in
theorem xb_L_law_586 {g : mj_G} {nm : String} {b Ln : Nat} {xs : Nat → Int32} (hC : mj_C g ⟨R_law, nm, ""⟩ code 19 ret room_1) (hE : mj_EL g) (hA : (mj_aa g).2.2.2 = (b, Ln, xs)) (l1 : Nat) (l2 : Int32) (l3 : Int32) (l4 : Int32) (l5 : Int32) (l7 : Int32) (l8 : Bool) (l11 : Bool) (s0 : Int32) (s1 : Int32) (M : mj_M) (h : vb_L_law_586 xs Ln l1 l2 l3 l4 l5 l7 l8 l11 s0 s1 M) : mj_X g 586 [(0, vR (b + 1)), (1, vR l1), (2, vI l2), (3, vI l3), (4, vI l4), (5, vI l5), (7, vI l7), (8, vI (mj_b l8)), (11, vI (mj_b l11))] [vI s1, vI s0] M 149 3478 := by
  simp only [vb_L_law_586] at h
  refine mx_icmpeq (tgt := 591) hC dL_law_586 (by decide) (fun hc161 => ?_) (fun hc161 => ?_)
  · replace h := mj_yy hc161 h
    refine mx_iload (j := 5) hC dL_law_591 rfl ?_
    refine mx_bipush (v := 30) hC dL_law_593 (by decide) ?_
    refine mx_iadd hC dL_law_595 ?_
    refine mx_iload (j := 6) hC dL_law_596 rfl ?_
    refine mx_iadd hC dL_law_598 ?_
    refine mx_istore (L' := [(12, vI ((l5 + 30) + l7)), (0, vR ((b + 1))), (1, vR l1), (2, vI l2), (3, vI l3), (4, vI l4), (5, vI l5), (7, vI l7), (8, vI (mj_b l8)), (11, vI (mj_b l11))]) hC dL_law_599 (by decide) rfl ?_
    refine mx_iload (j := 9) hC dL_law_601 rfl ?_
    refine mx_ifneB (tgt := 633) hC dL_law_603 (by decide) (fun hc162 => ?_) (fun hc162 => ?_)
    · replace h := mj_yy hc162 h
      refine mx_sub (L' := [(0, vR (b + 1)), (1, vR l1), (2, vI l2), (3, vI l3), (4, vI l4), (8, vI (mj_b l8)), (12, vI ((l5 + 30) + l7))]) [1, 2, 3, 4, 5, 8, 0] rfl ?_
      exact show mj_X g 633 [(0, vR (b + 1)), (1, vR l1), (2, vI l2), (3, vI l3), (4, vI l4), (8, vI (mj_b l8)), (12, vI ((l5 + 30) + l7))] [] M 149 3478 from (xb_L_law_633 hC hE hA l1 l2 l3 l4 l8 ((l5 + 30) + l7) M h)
    · replace h := mj_nn hc162 h
      refine mx_sub (L' := [(1, vR l1)]) [2] rfl ?_
      exact show mj_X g 606 [(1, vR l1)] [] M 149 3478 from (xb_L_law_606 hC hE hA l1 M h)
  · replace h := mj_nn hc161 h
    refine mx_iconst (v := 0) hC dL_law_589 (by decide) ?_
    exact h.elim
set_option maxHeartbeats 4000000 in
set_option maxRecDepth 100000 in
theorem xb_L_law_565 {g : mj_G} {nm : String} {b Ln : Nat} {xs : Nat → Int32} (hC : mj_C g ⟨R_law, nm, ""⟩ code 19 ret room_1) (hE : mj_EL g) (hA : (mj_aa g).2.2.2 = (b, Ln, xs)) (l1 : Nat) (l2 : Int32) (l3 : Int32) (l4 : Int32) (l5 : Int32) (l7 : Int32) (l8 : Bool) (l11 : Bool) (M : mj_M) (h : vb_L_law_565 xs Ln l1 l2 l3 l4 l5 l7 l8 l11 M) : mj_X g 565 [(0, vR (b + 1)), (1, vR l1), (2, vI l2), (3, vI l3), (4, vI l4), (5, vI l5), (7, vI l7), (8, vI (mj_b l8)), (11, vI (mj_b l11))] [] M 149 3478 := by
  simp only [vb_L_law_565] at h
  refine mx_aload_n (j := 1) hC dL_law_565 rfl rfl ?_
  refine mx_iconst (v := 3) hC dL_law_566 (by decide) ?_
  refine mx_iconst (v := 4) hC dL_law_567 (by decide) ?_
  obtain ⟨ht163, h⟩ := h
  refine mx_callV (inj := mj_jI) (As := [vI 3, vI 4]) (st := []) hC (ct_X11_about l1 3 4 M _ h) ty_X11_about tw415 ht163 rfl (Nat.le_of_ble_eq_true rfl) ⟨rfl, rfl, ⟨by decide, by decide⟩, by show _ ≤ 600000; omega, by show _ ≤ 7302250; omega⟩ dL_law_568 (fun r164 M165 h => ?_)
  show mj_X g 571 [(0, vR ((b + 1))), (1, vR l1), (2, vI l2), (3, vI l3), (4, vI l4), (5, vI l5), (7, vI l7), (8, vI (mj_b l8)), (11, vI (mj_b l11))] [vI r164] M165 149 3478
  refine mx_iload (j := 8) hC dL_law_571 rfl ?_
  refine mx_ifeqB (tgt := 581) hC dL_law_573 (by decide) (fun hc166 => ?_) (fun hc166 => ?_)
  · replace h := mj_nn hc166 h
    refine mx_iload (j := 5) hC dL_law_581 rfl ?_
    refine mx_bipush (v := 30) hC dL_law_583 (by decide) ?_
    refine mx_iadd hC dL_law_585 ?_
    refine mx_sub (L' := [(0, vR (b + 1)), (1, vR l1), (2, vI l2), (3, vI l3), (4, vI l4), (5, vI l5), (7, vI l7), (8, vI (mj_b l8)), (11, vI (mj_b l11))]) [0, 1, 2, 3, 4, 5, 6, 7, 8] rfl ?_
    exact show mj_X g 586 [(0, vR (b + 1)), (1, vR l1), (2, vI l2), (3, vI l3), (4, vI l4), (5, vI l5), (7, vI l7), (8, vI (mj_b l8)), (11, vI (mj_b l11))] [vI (l5 + 30), vI r164] M165 149 3478 from (xb_L_law_586 hC hE hA l1 l2 l3 l4 l5 l7 l8 l11 r164 (l5 + 30) M165 h)
  · replace h := mj_yy hc166 h
    refine mx_iload (j := 4) hC dL_law_576 rfl ?_
    refine mx_goto (tgt := 586) hC dL_law_578 (by decide) ?_
    refine mx_sub (L' := [(0, vR (b + 1)), (1, vR l1), (2, vI l2), (3, vI l3), (4, vI l4), (5, vI l5), (7, vI l7), (8, vI (mj_b l8)), (11, vI (mj_b l11))]) [0, 1, 2, 3, 4, 5, 6, 7, 8] rfl ?_
    exact show mj_X g 586 [(0, vR (b + 1)), (1, vR l1), (2, vI l2), (3, vI l3), (4, vI l4), (5, vI l5), (7, vI l7), (8, vI (mj_b l8)), (11, vI (mj_b l11))] [vI l4, vI r164] M165 149 3478 from (xb_L_law_586 hC hE hA l1 l2 l3 l4 l5 l7 l8 l11 r164 l4 M165 h)
set_option maxHeartbeats 4000000 in
set_option maxRecDepth 100000 in
theorem xb_L_law_562 {g : mj_G} {nm : String} {b Ln : Nat} {xs : Nat → Int32} (hC : mj_C g ⟨R_law, nm, ""⟩ code 19 ret room_1) (hE : mj_EL g) (hA : (mj_aa g).2.2.2 = (b, Ln, xs)) (l1 : Nat) (l2 : Int32) (l3 : Int32) (l4 : Int32) (l5 : Int32) (l7 : Int32) (l8 : Bool) (l11 : Bool) (s0 : Int32) (s1 : Int32) (M : mj_M) (h : vb_L_law_562 xs Ln l1 l2 l3 l4 l5 l7 l8 l11 s0 s1 M) : mj_X g 562 [(0, vR (b + 1)), (1, vR l1), (2, vI l2), (3, vI l3), (4, vI l4), (5, vI l5), (7, vI l7), (8, vI (mj_b l8)), (11, vI (mj_b l11))] [vI s1, vI s0] M 149 3478 := by
  simp only [vb_L_law_562] at h
  refine mx_icmpne (tgt := 589) hC dL_law_562 (by decide) (fun hc167 => ?_) (fun hc167 => ?_)
  · replace h := mj_nn hc167 h
    refine mx_iconst (v := 0) hC dL_law_589 (by decide) ?_
    exact h.elim
  · replace h := mj_yy hc167 h
    refine mx_sub (L' := [(0, vR (b + 1)), (1, vR l1), (2, vI l2), (3, vI l3), (4, vI l4), (5, vI l5), (7, vI l7), (8, vI (mj_b l8)), (11, vI (mj_b l11))]) [0, 1, 2, 3, 4, 5, 6, 7, 8] rfl ?_
    exact show mj_X g 565 [(0, vR (b + 1)), (1, vR l1), (2, vI l2), (3, vI l3), (4, vI l4), (5, vI l5), (7, vI l7), (8, vI (mj_b l8)), (11, vI (mj_b l11))] [] M 149 3478 from (xb_L_law_565 hC hE hA l1 l2 l3 l4 l5 l7 l8 l11 M h)
set_option maxHeartbeats 4000000 in
set_option maxRecDepth 100000 in
theorem xb_L_law_543 {g : mj_G} {nm : String} {b Ln : Nat} {xs : Nat → Int32} (hC : mj_C g ⟨R_law, nm, ""⟩ code 19 ret room_1) (hE : mj_EL g) (hA : (mj_aa g).2.2.2 = (b, Ln, xs)) (l1 : Nat) (l2 : Int32) (l3 : Int32) (l4 : Int32) (l5 : Int32) (l7 : Int32) (l8 : Bool) (l11 : Bool) (M : mj_M) (h : vb_L_law_543 xs Ln l1 l2 l3 l4 l5 l7 l8 l11 M) : mj_X g 543 [(0, vR (b + 1)), (1, vR l1), (2, vI l2), (3, vI l3), (4, vI l4), (5, vI l5), (7, vI l7), (8, vI (mj_b l8)), (11, vI (mj_b l11))] [] M 149 3478 := by
  simp only [vb_L_law_543] at h
  refine mx_aload_n (j := 1) hC dL_law_543 rfl rfl ?_
  refine mx_iconst (v := 2) hC dL_law_544 (by decide) ?_
  refine mx_bipush (v := 10) hC dL_law_545 (by decide) ?_
  obtain ⟨ht168, h⟩ := h
  refine mx_callV (inj := mj_jI) (As := [vI 2, vI 10]) (st := []) hC (ct_X11_about l1 2 10 M _ h) ty_X11_about tw415 ht168 rfl (Nat.le_of_ble_eq_true rfl) ⟨rfl, rfl, ⟨by decide, by decide⟩, by show _ ≤ 600000; omega, by show _ ≤ 7302250; omega⟩ dL_law_547 (fun r169 M170 h => ?_)
  show mj_X g 550 [(0, vR ((b + 1))), (1, vR l1), (2, vI l2), (3, vI l3), (4, vI l4), (5, vI l5), (7, vI l7), (8, vI (mj_b l8)), (11, vI (mj_b l11))] [vI r169] M170 149 3478
  refine mx_iload (j := 8) hC dL_law_550 rfl ?_
  refine mx_ifeqB (tgt := 560) hC dL_law_552 (by decide) (fun hc171 => ?_) (fun hc171 => ?_)
  · replace h := mj_nn hc171 h
    refine mx_iload (j := 5) hC dL_law_560 rfl ?_
    refine mx_sub (L' := [(0, vR (b + 1)), (1, vR l1), (2, vI l2), (3, vI l3), (4, vI l4), (5, vI l5), (7, vI l7), (8, vI (mj_b l8)), (11, vI (mj_b l11))]) [0, 1, 2, 3, 4, 5, 6, 7, 8] rfl ?_
    exact show mj_X g 562 [(0, vR (b + 1)), (1, vR l1), (2, vI l2), (3, vI l3), (4, vI l4), (5, vI l5), (7, vI l7), (8, vI (mj_b l8)), (11, vI (mj_b l11))] [vI l5, vI r169] M170 149 3478 from (xb_L_law_562 hC hE hA l1 l2 l3 l4 l5 l7 l8 l11 r169 l5 M170 h)
  · replace h := mj_yy hc171 h
    refine mx_bipush (v := (-6)) hC dL_law_555 (by decide) ?_
    refine mx_goto (tgt := 562) hC dL_law_557 (by decide) ?_
    refine mx_sub (L' := [(0, vR (b + 1)), (1, vR l1), (2, vI l2), (3, vI l3), (4, vI l4), (5, vI l5), (7, vI l7), (8, vI (mj_b l8)), (11, vI (mj_b l11))]) [0, 1, 2, 3, 4, 5, 6, 7, 8] rfl ?_
    exact show mj_X g 562 [(0, vR (b + 1)), (1, vR l1), (2, vI l2), (3, vI l3), (4, vI l4), (5, vI l5), (7, vI l7), (8, vI (mj_b l8)), (11, vI (mj_b l11))] [vI ((-6)), vI r169] M170 149 3478 from (xb_L_law_562 hC hE hA l1 l2 l3 l4 l5 l7 l8 l11 r169 ((-6)) M170 h)
set_option maxHeartbeats 4000000 in
set_option maxRecDepth 100000 in
theorem xb_L_law_540 {g : mj_G} {nm : String} {b Ln : Nat} {xs : Nat → Int32} (hC : mj_C g ⟨R_law, nm, ""⟩ code 19 ret room_1) (hE : mj_EL g) (hA : (mj_aa g).2.2.2 = (b, Ln, xs)) (l1 : Nat) (l2 : Int32) (l3 : Int32) (l4 : Int32) (l5 : Int32) (l7 : Int32) (l8 : Bool) (l11 : Bool) (s0 : Int32) (s1 : Int32) (M : mj_M) (h : vb_L_law_540 xs Ln l1 l2 l3 l4 l5 l7 l8 l11 s0 s1 M) : mj_X g 540 [(0, vR (b + 1)), (1, vR l1), (2, vI l2), (3, vI l3), (4, vI l4), (5, vI l5), (7, vI l7), (8, vI (mj_b l8)), (11, vI (mj_b l11))] [vI s1, vI s0] M 149 3478 := by
  simp only [vb_L_law_540] at h
  refine mx_icmpne (tgt := 589) hC dL_law_540 (by decide) (fun hc172 => ?_) (fun hc172 => ?_)
  · replace h := mj_nn hc172 h
    refine mx_iconst (v := 0) hC dL_law_589 (by decide) ?_
    exact h.elim
  · replace h := mj_yy hc172 h
    refine mx_sub (L' := [(0, vR (b + 1)), (1, vR l1), (2, vI l2), (3, vI l3), (4, vI l4), (5, vI l5), (7, vI l7), (8, vI (mj_b l8)), (11, vI (mj_b l11))]) [0, 1, 2, 3, 4, 5, 6, 7, 8] rfl ?_
    exact show mj_X g 543 [(0, vR (b + 1)), (1, vR l1), (2, vI l2), (3, vI l3), (4, vI l4), (5, vI l5), (7, vI l7), (8, vI (mj_b l8)), (11, vI (mj_b l11))] [] M 149 3478 from (xb_L_law_543 hC hE hA l1 l2 l3 l4 l5 l7 l8 l11 M h)
set_option maxHeartbeats 4000000 in
set_option maxRecDepth 100000 in
theorem xb_L_law_524 {g : mj_G} {nm : String} {b Ln : Nat} {xs : Nat → Int32} (hC : mj_C g ⟨R_law, nm, ""⟩ code 19 ret room_1) (hE : mj_EL g) (hA : (mj_aa g).2.2.2 = (b, Ln, xs)) (l1 : Nat) (l2 : Int32) (l3 : Int32) (l4 : Int32) (l5 : Int32) (l7 : Int32) (l8 : Bool) (l11 : Bool) (M : mj_M) (h : vb_L_law_524 xs Ln l1 l2 l3 l4 l5 l7 l8 l11 M) : mj_X g 524 [(0, vR (b + 1)), (1, vR l1), (2, vI l2), (3, vI l3), (4, vI l4), (5, vI l5), (7, vI l7), (8, vI (mj_b l8)), (11, vI (mj_b l11))] [] M 149 3478 := by
  simp only [vb_L_law_524] at h
  refine mx_aload_n (j := 1) hC dL_law_524 rfl rfl ?_
  refine mx_iconst (v := 3) hC dL_law_525 (by decide) ?_
  refine mx_iconst (v := 5) hC dL_law_526 (by decide) ?_
  obtain ⟨ht173, h⟩ := h
  refine mx_callV (inj := mj_jI) (As := [vI 3, vI 5]) (st := []) hC (ct_X11_about l1 3 5 M _ h) ty_X11_about tw415 ht173 rfl (Nat.le_of_ble_eq_true rfl) ⟨rfl, rfl, ⟨by decide, by decide⟩, by show _ ≤ 600000; omega, by show _ ≤ 7302250; omega⟩ dL_law_527 (fun r174 M175 h => ?_)
  show mj_X g 530 [(0, vR ((b + 1))), (1, vR l1), (2, vI l2), (3, vI l3), (4, vI l4), (5, vI l5), (7, vI l7), (8, vI (mj_b l8)), (11, vI (mj_b l11))] [vI r174] M175 149 3478
  refine mx_iload (j := 8) hC dL_law_530 rfl ?_
  refine mx_ifeqB (tgt := 539) hC dL_law_532 (by decide) (fun hc176 => ?_) (fun hc176 => ?_)
  · replace h := mj_nn hc176 h
    refine mx_iconst (v := 4) hC dL_law_539 (by decide) ?_
    refine mx_sub (L' := [(0, vR (b + 1)), (1, vR l1), (2, vI l2), (3, vI l3), (4, vI l4), (5, vI l5), (7, vI l7), (8, vI (mj_b l8)), (11, vI (mj_b l11))]) [0, 1, 2, 3, 4, 5, 6, 7, 8] rfl ?_
    exact show mj_X g 540 [(0, vR (b + 1)), (1, vR l1), (2, vI l2), (3, vI l3), (4, vI l4), (5, vI l5), (7, vI l7), (8, vI (mj_b l8)), (11, vI (mj_b l11))] [vI 4, vI r174] M175 149 3478 from (xb_L_law_540 hC hE hA l1 l2 l3 l4 l5 l7 l8 l11 r174 4 M175 h)
  · replace h := mj_yy hc176 h
    refine mx_iconst (v := 0) hC dL_law_535 (by decide) ?_
    refine mx_goto (tgt := 540) hC dL_law_536 (by decide) ?_
    refine mx_sub (L' := [(0, vR (b + 1)), (1, vR l1), (2, vI l2), (3, vI l3), (4, vI l4), (5, vI l5), (7, vI l7), (8, vI (mj_b l8)), (11, vI (mj_b l11))]) [0, 1, 2, 3, 4, 5, 6, 7, 8] rfl ?_
    exact show mj_X g 540 [(0, vR (b + 1)), (1, vR l1), (2, vI l2), (3, vI l3), (4, vI l4), (5, vI l5), (7, vI l7), (8, vI (mj_b l8)), (11, vI (mj_b l11))] [vI 0, vI r174] M175 149 3478 from (xb_L_law_540 hC hE hA l1 l2 l3 l4 l5 l7 l8 l11 r174 0 M175 h)
set_option maxHeartbeats 4000000 in
set_option maxRecDepth 100000 in
theorem xb_L_law_521 {g : mj_G} {nm : String} {b Ln : Nat} {xs : Nat → Int32} (hC : mj_C g ⟨R_law, nm, ""⟩ code 19 ret room_1) (hE : mj_EL g) (hA : (mj_aa g).2.2.2 = (b, Ln, xs)) (l1 : Nat) (l2 : Int32) (l3 : Int32) (l4 : Int32) (l5 : Int32) (l7 : Int32) (l8 : Bool) (l11 : Bool) (s0 : Int32) (s1 : Int32) (M : mj_M) (h : vb_L_law_521 xs Ln l1 l2 l3 l4 l5 l7 l8 l11 s0 s1 M) : mj_X g 521 [(0, vR (b + 1)), (1, vR l1), (2, vI l2), (3, vI l3), (4, vI l4), (5, vI l5), (7, vI l7), (8, vI (mj_b l8)), (11, vI (mj_b l11))] [vI s1, vI s0] M 149 3478 := by
  simp only [vb_L_law_521] at h
  refine mx_icmpne (tgt := 589) hC dL_law_521 (by decide) (fun hc177 => ?_) (fun hc177 => ?_)
  · replace h := mj_nn hc177 h
    refine mx_iconst (v := 0) hC dL_law_589 (by decide) ?_
    exact h.elim
  · replace h := mj_yy hc177 h
    refine mx_sub (L' := [(0, vR (b + 1)), (1, vR l1), (2, vI l2), (3, vI l3), (4, vI l4), (5, vI l5), (7, vI l7), (8, vI (mj_b l8)), (11, vI (mj_b l11))]) [0, 1, 2, 3, 4, 5, 6, 7, 8] rfl ?_
    exact show mj_X g 524 [(0, vR (b + 1)), (1, vR l1), (2, vI l2), (3, vI l3), (4, vI l4), (5, vI l5), (7, vI l7), (8, vI (mj_b l8)), (11, vI (mj_b l11))] [] M 149 3478 from (xb_L_law_524 hC hE hA l1 l2 l3 l4 l5 l7 l8 l11 M h)
set_option maxHeartbeats 4000000 in
set_option maxRecDepth 100000 in
theorem xb_L_law_503 {g : mj_G} {nm : String} {b Ln : Nat} {xs : Nat → Int32} (hC : mj_C g ⟨R_law, nm, ""⟩ code 19 ret room_1) (hE : mj_EL g) (hA : (mj_aa g).2.2.2 = (b, Ln, xs)) (l1 : Nat) (l2 : Int32) (l3 : Int32) (l4 : Int32) (l5 : Int32) (l7 : Int32) (l8 : Bool) (s0 : Bool) (M : mj_M) (h : vb_L_law_503 xs Ln l1 l2 l3 l4 l5 l7 l8 s0 M) : mj_X g 503 [(0, vR (b + 1)), (1, vR l1), (2, vI l2), (3, vI l3), (4, vI l4), (5, vI l5), (7, vI l7), (8, vI (mj_b l8))] [vI (mj_b s0)] M 149 3478 := by
  simp only [vb_L_law_503] at h
  refine mx_istore (L' := [(11, vI (mj_b s0)), (0, vR ((b + 1))), (1, vR l1), (2, vI l2), (3, vI l3), (4, vI l4), (5, vI l5), (7, vI l7), (8, vI (mj_b l8))]) hC dL_law_503 (by decide) rfl ?_
  refine mx_aload_n (j := 2) hC dL_law_505 rfl rfl ?_
  refine mx_iconst (v := 2) hC dL_law_506 (by decide) ?_
  refine mx_iconst (v := 5) hC dL_law_507 (by decide) ?_
  obtain ⟨ht178, h⟩ := h
  refine mx_callV (inj := mj_jI) (As := [vI 2, vI 5]) (st := []) hC (ct_X11_about l1 2 5 M _ h) ty_X11_about tw415 ht178 rfl (Nat.le_of_ble_eq_true rfl) ⟨rfl, rfl, ⟨by decide, by decide⟩, by show _ ≤ 600000; omega, by show _ ≤ 7302250; omega⟩ dL_law_508 (fun r179 M180 h => ?_)
  show mj_X g 511 [(11, vI (mj_b s0)), (0, vR ((b + 1))), (1, vR l1), (2, vI l2), (3, vI l3), (4, vI l4), (5, vI l5), (7, vI l7), (8, vI (mj_b l8))] [vI r179] M180 149 3478
  refine mx_iload (j := 0) hC dL_law_511 rfl ?_
  refine mx_ifeqB (tgt := 520) hC dL_law_513 (by decide) (fun hc181 => ?_) (fun hc181 => ?_)
  · replace h := mj_nn hc181 h
    refine mx_iconst (v := 2) hC dL_law_520 (by decide) ?_
    refine mx_sub (L' := [(0, vR (b + 1)), (1, vR l1), (2, vI l2), (3, vI l3), (4, vI l4), (5, vI l5), (7, vI l7), (8, vI (mj_b l8)), (11, vI (mj_b s0))]) [1, 2, 3, 4, 5, 6, 7, 8, 0] rfl ?_
    exact show mj_X g 521 [(0, vR (b + 1)), (1, vR l1), (2, vI l2), (3, vI l3), (4, vI l4), (5, vI l5), (7, vI l7), (8, vI (mj_b l8)), (11, vI (mj_b s0))] [vI 2, vI r179] M180 149 3478 from (xb_L_law_521 hC hE hA l1 l2 l3 l4 l5 l7 l8 s0 r179 2 M180 h)
  · replace h := mj_yy hc181 h
    refine mx_iconst (v := 0) hC dL_law_516 (by decide) ?_
    refine mx_goto (tgt := 521) hC dL_law_517 (by decide) ?_
    refine mx_sub (L' := [(0, vR (b + 1)), (1, vR l1), (2, vI l2), (3, vI l3), (4, vI l4), (5, vI l5), (7, vI l7), (8, vI (mj_b l8)), (11, vI (mj_b s0))]) [1, 2, 3, 4, 5, 6, 7, 8, 0] rfl ?_
    exact show mj_X g 521 [(0, vR (b + 1)), (1, vR l1), (2, vI l2), (3, vI l3), (4, vI l4), (5, vI l5), (7, vI l7), (8, vI (mj_b l8)), (11, vI (mj_b s0))] [vI 0, vI r179] M180 149 3478 from (xb_L_law_521 hC hE hA l1 l2 l3 l4 l5 l7 l8 s0 r179 0 M180 h)
set_option maxHeartbeats 4000000 in
set_option maxRecDepth 100000 in
theorem xb_L_law_502 {g : mj_G} {nm : String} {b Ln : Nat} {xs : Nat → Int32} (hC : mj_C g ⟨R_law, nm, ""⟩ code 19 ret room_1) (hE : mj_EL g) (hA : (mj_aa g).2.2.2 = (b, Ln, xs)) (l1 : Nat) (l2 : Int32) (l3 : Int32) (l4 : Int32) (l5 : Int32) (l7 : Int32) (l8 : Bool) (M : mj_M) (h : vb_L_law_502 xs Ln l1 l2 l3 l4 l5 l7 l8 M) : mj_X g 502 [(0, vR (b + 1)), (1, vR l1), (2, vI l2), (3, vI l3), (4, vI l4), (5, vI l5), (7, vI l7), (8, vI (mj_b l8))] [] M 149 3478 := by
  simp only [vb_L_law_502] at h
  refine mx_iconst (v := 0) hC dL_law_502 (by decide) ?_
  refine mx_sub (L' := [(0, vR (b + 1)), (1, vR l1), (2, vI l2), (3, vI l3), (4, vI l4), (5, vI l5), (7, vI l7), (8, vI (mj_b l8))]) [0, 1, 2, 3, 4, 5, 6, 7] rfl ?_
  exact show mj_X g 503 [(0, vR (b + 1)), (1, vR l1), (2, vI l2), (3, vI l3), (4, vI l4), (5, vI l5), (7, vI l7), (8, vI (mj_b l8))] [vI (mj_b false)] M 149 3478 from (xb_L_law_503 hC hE hA l1 l2 l3 l4 l5 l7 l8 false M h)
set_option maxHeartbeats 4000000 in
set_option maxRecDepth 100000 in
theorem xb_L_law_487 {g : mj_G} {nm : String} {b Ln : Nat} {xs : Nat → Int32} (hC : mj_C g ⟨R_law, nm, ""⟩ code 19 ret room_1) (hE : mj_EL g) (hA : (mj_aa g).2.2.2 = (b, Ln, xs)) (l1 : Nat) (l2 : Int32) (l3 : Int32) (l4 : Int32) (l5 : Int32) (l6 : Bool) (l7 : Int32) (l8 : Bool) (l9 : Int32) (M : mj_M) (h : vb_L_law_487 xs Ln l1 l2 l3 l4 l5 l6 l7 l8 l9 M) : mj_X g 487 [(0, vR (b + 1)), (1, vR l1), (2, vI l2), (3, vI l3), (4, vI l4), (5, vI l5), (6, vI (mj_b l6)), (7, vI l7), (8, vI (mj_b l8)), (9, vI l9)] [] M 149 3478 := by
  simp only [vb_L_law_487] at h
  refine mx_iload (j := 6) hC dL_law_487 rfl ?_
  refine mx_ifeqB (tgt := 502) hC dL_law_489 (by decide) (fun hc182 => ?_) (fun hc182 => ?_)
  · replace h := mj_nn hc182 h
    refine mx_sub (L' := [(0, vR (b + 1)), (1, vR l1), (2, vI l2), (3, vI l3), (4, vI l4), (5, vI l5), (7, vI l7), (8, vI (mj_b l8))]) [0, 1, 2, 3, 4, 5, 7, 8] rfl ?_
    exact show mj_X g 502 [(0, vR (b + 1)), (1, vR l1), (2, vI l2), (3, vI l3), (4, vI l4), (5, vI l5), (7, vI l7), (8, vI (mj_b l8))] [] M 149 3478 from (xb_L_law_502 hC hE hA l1 l2 l3 l4 l5 l7 l8 M h)
  · replace h := mj_yy hc182 h
    refine mx_iload (j := 9) hC dL_law_492 rfl ?_
    refine mx_iconst (v := 2) hC dL_law_494 (by decide) ?_
    refine mx_icmpne (tgt := 502) hC dL_law_495 (by decide) (fun hc183 => ?_) (fun hc183 => ?_)
    · replace h := mj_nn hc183 h
      refine mx_sub (L' := [(0, vR (b + 1)), (1, vR l1), (2, vI l2), (3, vI l3), (4, vI l4), (5, vI l5), (7, vI l7), (8, vI (mj_b l8))]) [0, 1, 2, 3, 4, 5, 7, 8] rfl ?_
      exact show mj_X g 502 [(0, vR (b + 1)), (1, vR l1), (2, vI l2), (3, vI l3), (4, vI l4), (5, vI l5), (7, vI l7), (8, vI (mj_b l8))] [] M 149 3478 from (xb_L_law_502 hC hE hA l1 l2 l3 l4 l5 l7 l8 M h)
    · replace h := mj_yy hc183 h
      refine mx_iconst (v := 1) hC dL_law_498 (by decide) ?_
      refine mx_goto (tgt := 503) hC dL_law_499 (by decide) ?_
      refine mx_sub (L' := [(0, vR (b + 1)), (1, vR l1), (2, vI l2), (3, vI l3), (4, vI l4), (5, vI l5), (7, vI l7), (8, vI (mj_b l8))]) [0, 1, 2, 3, 4, 5, 7, 8] rfl ?_
      exact show mj_X g 503 [(0, vR (b + 1)), (1, vR l1), (2, vI l2), (3, vI l3), (4, vI l4), (5, vI l5), (7, vI l7), (8, vI (mj_b l8))] [vI (mj_b true)] M 149 3478 from (xb_L_law_503 hC hE hA l1 l2 l3 l4 l5 l7 l8 true M h)
set_option maxHeartbeats 4000000 in
set_option maxRecDepth 100000 in
theorem xb_L_law_471 {g : mj_G} {nm : String} {b Ln : Nat} {xs : Nat → Int32} (hC : mj_C g ⟨R_law, nm, ""⟩ code 19 ret room_1) (hE : mj_EL g) (hA : (mj_aa g).2.2.2 = (b, Ln, xs)) (l1 : Nat) (l2 : Int32) (l3 : Int32) (l4 : Int32) (l5 : Int32) (l6 : Bool) (l7 : Int32) (l8 : Bool) (l9 : Int32) (s0 : Int32) (M : mj_M) (h : vb_L_law_471 xs Ln l1 l2 l3 l4 l5 l6 l7 l8 l9 s0 M) : mj_X g 471 [(0, vR (b + 1)), (1, vR l1), (2, vI l2), (3, vI l3), (4, vI l4), (5, vI l5), (6, vI (mj_b l6)), (7, vI l7), (8, vI (mj_b l8)), (9, vI l9)] [vI s0] M 149 3478 := by
  simp only [vb_L_law_471] at h
  refine mx_istore (L' := [(10, vI s0), (0, vR ((b + 1))), (1, vR l1), (2, vI l2), (3, vI l3), (4, vI l4), (5, vI l5), (6, vI (mj_b l6)), (7, vI l7), (8, vI (mj_b l8)), (9, vI l9)]) hC dL_law_471 (by decide) rfl ?_
  refine mx_iload (j := 7) hC dL_law_473 rfl ?_
  refine mx_ifeqB (tgt := 487) hC dL_law_475 (by decide) (fun hc184 => ?_) (fun hc184 => ?_)
  · replace h := mj_nn hc184 h
    refine mx_sub (L' := [(0, vR (b + 1)), (1, vR l1), (2, vI l2), (3, vI l3), (4, vI l4), (5, vI l5), (6, vI (mj_b l6)), (7, vI l7), (8, vI (mj_b l8)), (9, vI l9)]) [1, 2, 3, 4, 5, 6, 7, 8, 9, 10] rfl ?_
    exact show mj_X g 487 [(0, vR (b + 1)), (1, vR l1), (2, vI l2), (3, vI l3), (4, vI l4), (5, vI l5), (6, vI (mj_b l6)), (7, vI l7), (8, vI (mj_b l8)), (9, vI l9)] [] M 149 3478 from (xb_L_law_487 hC hE hA l1 l2 l3 l4 l5 l6 l7 l8 l9 M h)
  · replace h := mj_yy hc184 h
    refine mx_iload (j := 0) hC dL_law_478 rfl ?_
    refine mx_iload (j := 10) hC dL_law_480 rfl ?_
    refine mx_icmpeq (tgt := 487) hC dL_law_482 (by decide) (fun hc185 => ?_) (fun hc185 => ?_)
    · replace h := mj_yy hc185 h
      refine mx_sub (L' := [(0, vR (b + 1)), (1, vR l1), (2, vI l2), (3, vI l3), (4, vI l4), (5, vI l5), (6, vI (mj_b l6)), (7, vI l7), (8, vI (mj_b l8)), (9, vI l9)]) [1, 2, 3, 4, 5, 6, 7, 8, 9, 10] rfl ?_
      exact show mj_X g 487 [(0, vR (b + 1)), (1, vR l1), (2, vI l2), (3, vI l3), (4, vI l4), (5, vI l5), (6, vI (mj_b l6)), (7, vI l7), (8, vI (mj_b l8)), (9, vI l9)] [] M 149 3478 from (xb_L_law_487 hC hE hA l1 l2 l3 l4 l5 l6 l7 l8 l9 M h)
    · replace h := mj_nn hc185 h
      refine mx_iconst (v := 0) hC dL_law_485 (by decide) ?_
      exact h.elim
set_option maxHeartbeats 4000000 in
set_option maxRecDepth 100000 in
theorem xb_L_law_462 {g : mj_G} {nm : String} {b Ln : Nat} {xs : Nat → Int32} (hC : mj_C g ⟨R_law, nm, ""⟩ code 19 ret room_1) (hE : mj_EL g) (hA : (mj_aa g).2.2.2 = (b, Ln, xs)) (l1 : Nat) (l2 : Int32) (l3 : Int32) (l4 : Int32) (l5 : Int32) (l6 : Bool) (l7 : Int32) (l8 : Bool) (l9 : Int32) (M : mj_M) (h : vb_L_law_462 xs Ln l1 l2 l3 l4 l5 l6 l7 l8 l9 M) : mj_X g 462 [(0, vR (b + 1)), (1, vR l1), (2, vI l2), (3, vI l3), (4, vI l4), (5, vI l5), (6, vI (mj_b l6)), (7, vI l7), (8, vI (mj_b l8)), (9, vI l9)] [] M 149 3478 := by
  simp only [vb_L_law_462] at h
  refine mx_aload_n (j := 1) hC dL_law_462 rfl rfl ?_
  refine mx_iconst (v := 2) hC dL_law_463 (by decide) ?_
  obtain ⟨ht186, h⟩ := h
  refine mx_callV (inj := mj_jI) (As := [vI 2]) (st := []) hC (ct_X11_relieve l1 2 M _ h) ty_X11_relieve tw934 ht186 rfl (Nat.le_of_ble_eq_true rfl) ⟨rfl, rfl, ⟨by decide, by decide⟩, by show _ ≤ 600000; omega, by show _ ≤ 7302250; omega⟩ dL_law_464 (fun r187 M188 h => ?_)
  show mj_X g 467 [(0, vR ((b + 1))), (1, vR l1), (2, vI l2), (3, vI l3), (4, vI l4), (5, vI l5), (6, vI (mj_b l6)), (7, vI l7), (8, vI (mj_b l8)), (9, vI l9)] [vI r187] M188 149 3478
  refine mx_goto (tgt := 471) hC dL_law_467 (by decide) ?_
  refine mx_sub (L' := [(0, vR (b + 1)), (1, vR l1), (2, vI l2), (3, vI l3), (4, vI l4), (5, vI l5), (6, vI (mj_b l6)), (7, vI l7), (8, vI (mj_b l8)), (9, vI l9)]) [0, 1, 2, 3, 4, 5, 6, 7, 8, 9] rfl ?_
  exact show mj_X g 471 [(0, vR (b + 1)), (1, vR l1), (2, vI l2), (3, vI l3), (4, vI l4), (5, vI l5), (6, vI (mj_b l6)), (7, vI l7), (8, vI (mj_b l8)), (9, vI l9)] [vI r187] M188 149 3478 from (xb_L_law_471 hC hE hA l1 l2 l3 l4 l5 l6 l7 l8 l9 r187 M188 h)
set_option maxHeartbeats 4000000 in
set_option maxRecDepth 100000 in
theorem xb_L_law_455 {g : mj_G} {nm : String} {b Ln : Nat} {xs : Nat → Int32} (hC : mj_C g ⟨R_law, nm, ""⟩ code 19 ret room_1) (hE : mj_EL g) (hA : (mj_aa g).2.2.2 = (b, Ln, xs)) (l1 : Nat) (l2 : Int32) (l3 : Int32) (l4 : Int32) (l5 : Int32) (l6 : Bool) (l7 : Int32) (l8 : Bool) (s0 : Int32) (M : mj_M) (h : vb_L_law_455 xs Ln l1 l2 l3 l4 l5 l6 l7 l8 s0 M) : mj_X g 455 [(0, vR (b + 1)), (1, vR l1), (2, vI l2), (3, vI l3), (4, vI l4), (5, vI l5), (6, vI (mj_b l6)), (7, vI l7), (8, vI (mj_b l8))] [vI s0] M 149 3478 := by
  simp only [vb_L_law_455] at h
  refine mx_istore (L' := [(9, vI s0), (0, vR ((b + 1))), (1, vR l1), (2, vI l2), (3, vI l3), (4, vI l4), (5, vI l5), (6, vI (mj_b l6)), (7, vI l7), (8, vI (mj_b l8))]) hC dL_law_455 (by decide) rfl ?_
  refine mx_iload (j := 7) hC dL_law_457 rfl ?_
  refine mx_ifeqB (tgt := 470) hC dL_law_459 (by decide) (fun hc189 => ?_) (fun hc189 => ?_)
  · replace h := mj_nn hc189 h
    refine mx_iconst (v := 0) hC dL_law_470 (by decide) ?_
    refine mx_sub (L' := [(0, vR (b + 1)), (1, vR l1), (2, vI l2), (3, vI l3), (4, vI l4), (5, vI l5), (6, vI (mj_b l6)), (7, vI l7), (8, vI (mj_b l8)), (9, vI s0)]) [1, 2, 3, 4, 5, 6, 7, 8, 9, 0] rfl ?_
    exact show mj_X g 471 [(0, vR (b + 1)), (1, vR l1), (2, vI l2), (3, vI l3), (4, vI l4), (5, vI l5), (6, vI (mj_b l6)), (7, vI l7), (8, vI (mj_b l8)), (9, vI s0)] [vI 0] M 149 3478 from (xb_L_law_471 hC hE hA l1 l2 l3 l4 l5 l6 l7 l8 s0 0 M h)
  · replace h := mj_yy hc189 h
    refine mx_sub (L' := [(0, vR (b + 1)), (1, vR l1), (2, vI l2), (3, vI l3), (4, vI l4), (5, vI l5), (6, vI (mj_b l6)), (7, vI l7), (8, vI (mj_b l8)), (9, vI s0)]) [1, 2, 3, 4, 5, 6, 7, 8, 9, 0] rfl ?_
    exact show mj_X g 462 [(0, vR (b + 1)), (1, vR l1), (2, vI l2), (3, vI l3), (4, vI l4), (5, vI l5), (6, vI (mj_b l6)), (7, vI l7), (8, vI (mj_b l8)), (9, vI s0)] [] M 149 3478 from (xb_L_law_462 hC hE hA l1 l2 l3 l4 l5 l6 l7 l8 s0 M h)
set_option maxHeartbeats 4000000 in
set_option maxRecDepth 100000 in
theorem xb_L_law_431 {g : mj_G} {nm : String} {b Ln : Nat} {xs : Nat → Int32} (hC : mj_C g ⟨R_law, nm, ""⟩ code 19 ret room_1) (hE : mj_EL g) (hA : (mj_aa g).2.2.2 = (b, Ln, xs)) (l1 : Nat) (l2 : Int32) (l3 : Int32) (l4 : Int32) (l5 : Int32) (l6 : Bool) (l7 : Int32) (l8 : Bool) (M : mj_M) (h : vb_L_law_431 xs Ln l1 l2 l3 l4 l5 l6 l7 l8 M) : mj_X g 431 [(0, vR (b + 1)), (1, vR l1), (2, vI l2), (3, vI l3), (4, vI l4), (5, vI l5), (6, vI (mj_b l6)), (7, vI l7), (8, vI (mj_b l8))] [] M 149 3478 := by
  simp only [vb_L_law_431] at h
  refine mx_iload (j := 7) hC dL_law_431 rfl ?_
  refine mx_sipush (v := 180) hC dL_law_433 (by decide) ?_
  refine mx_icmple (tgt := 444) hC dL_law_436 (by decide) (fun hc190 => ?_) (fun hc190 => ?_)
  · replace h := mj_yy hc190 h
    refine mx_iload (j := 8) hC dL_law_444 rfl ?_
    refine mx_ifeqB (tgt := 454) hC dL_law_446 (by decide) (fun hc191 => ?_) (fun hc191 => ?_)
    · replace h := mj_nn hc191 h
      refine mx_iconst (v := 2) hC dL_law_454 (by decide) ?_
      refine mx_sub (L' := [(0, vR (b + 1)), (1, vR l1), (2, vI l2), (3, vI l3), (4, vI l4), (5, vI l5), (6, vI (mj_b l6)), (7, vI l7), (8, vI (mj_b l8))]) [0, 1, 2, 3, 4, 5, 6, 7, 8] rfl ?_
      exact show mj_X g 455 [(0, vR (b + 1)), (1, vR l1), (2, vI l2), (3, vI l3), (4, vI l4), (5, vI l5), (6, vI (mj_b l6)), (7, vI l7), (8, vI (mj_b l8))] [vI 2] M 149 3478 from (xb_L_law_455 hC hE hA l1 l2 l3 l4 l5 l6 l7 l8 2 M h)
    · replace h := mj_yy hc191 h
      refine mx_bipush (v := (-5)) hC dL_law_449 (by decide) ?_
      refine mx_goto (tgt := 455) hC dL_law_451 (by decide) ?_
      refine mx_sub (L' := [(0, vR (b + 1)), (1, vR l1), (2, vI l2), (3, vI l3), (4, vI l4), (5, vI l5), (6, vI (mj_b l6)), (7, vI l7), (8, vI (mj_b l8))]) [0, 1, 2, 3, 4, 5, 6, 7, 8] rfl ?_
      exact show mj_X g 455 [(0, vR (b + 1)), (1, vR l1), (2, vI l2), (3, vI l3), (4, vI l4), (5, vI l5), (6, vI (mj_b l6)), (7, vI l7), (8, vI (mj_b l8))] [vI ((-5))] M 149 3478 from (xb_L_law_455 hC hE hA l1 l2 l3 l4 l5 l6 l7 l8 ((-5)) M h)
  · replace h := mj_nn hc190 h
    refine mx_bipush (v := (-3)) hC dL_law_439 (by decide) ?_
    refine mx_goto (tgt := 455) hC dL_law_441 (by decide) ?_
    refine mx_sub (L' := [(0, vR (b + 1)), (1, vR l1), (2, vI l2), (3, vI l3), (4, vI l4), (5, vI l5), (6, vI (mj_b l6)), (7, vI l7), (8, vI (mj_b l8))]) [0, 1, 2, 3, 4, 5, 6, 7, 8] rfl ?_
    exact show mj_X g 455 [(0, vR (b + 1)), (1, vR l1), (2, vI l2), (3, vI l3), (4, vI l4), (5, vI l5), (6, vI (mj_b l6)), (7, vI l7), (8, vI (mj_b l8))] [vI ((-3))] M 149 3478 from (xb_L_law_455 hC hE hA l1 l2 l3 l4 l5 l6 l7 l8 ((-3)) M h)
set_option maxHeartbeats 4000000 in
set_option maxRecDepth 100000 in
theorem xb_L_law_402 {g : mj_G} {nm : String} {b Ln : Nat} {xs : Nat → Int32} (hC : mj_C g ⟨R_law, nm, ""⟩ code 19 ret room_1) (hE : mj_EL g) (hA : (mj_aa g).2.2.2 = (b, Ln, xs)) (l1 : Nat) (l2 : Int32) (l3 : Int32) (l4 : Int32) (l5 : Int32) (l6 : Bool) (l7 : Int32) (l8 : Bool) (M : mj_M) (h : vb_L_law_402 xs Ln l1 l2 l3 l4 l5 l6 l7 l8 M) : mj_X g 402 [(0, vR (b + 1)), (1, vR l1), (2, vI l2), (3, vI l3), (4, vI l4), (5, vI l5), (6, vI (mj_b l6)), (7, vI l7), (8, vI (mj_b l8))] [] M 148 3463 := by
  simp only [vb_L_law_402] at h
  refine mx_aload_n (j := 1) hC dL_law_402 rfl rfl ?_
  refine mx_iconst (v := 1) hC dL_law_403 (by decide) ?_
  refine mx_iconst (v := 2) hC dL_law_404 (by decide) ?_
  refine mx_iload (j := 5) hC dL_law_405 rfl ?_
  refine mx_bipush (v := 30) hC dL_law_407 (by decide) ?_
  refine mx_iadd hC dL_law_409 ?_
  refine mx_iload (j := 7) hC dL_law_410 rfl ?_
  refine mx_iadd hC dL_law_412 ?_
  refine mx_iload (j := 5) hC dL_law_413 rfl ?_
  refine mx_bipush (v := 31) hC dL_law_415 (by decide) ?_
  refine mx_iadd hC dL_law_417 ?_
  refine mx_iload (j := 7) hC dL_law_418 rfl ?_
  refine mx_iadd hC dL_law_420 ?_
  refine mx_iconst (v := 4) hC dL_law_421 (by decide) ?_
  obtain ⟨ht192, h⟩ := h
  refine mx_callV (inj := mj_jI) (As := [vI 1, vI 2, vI ((l5 + 30) + l7), vI ((l5 + 31) + l7), vI 4]) (st := []) hC (ct_X11_lease l1 1 2 ((l5 + 30) + l7) ((l5 + 31) + l7) 4 M _ h) ty_X11_lease tw373 ht192 rfl (Nat.le_of_ble_eq_true rfl) ⟨rfl, rfl, ⟨by decide, by decide⟩, by show _ ≤ 600000; omega, by show _ ≤ 7302250; omega⟩ dL_law_422 (fun r193 M194 h => ?_)
  show mj_X g 425 [(0, vR ((b + 1))), (1, vR l1), (2, vI l2), (3, vI l3), (4, vI l4), (5, vI l5), (6, vI (mj_b l6)), (7, vI l7), (8, vI (mj_b l8))] [vI r193] M194 149 3478
  refine mx_iconst (v := 4) hC dL_law_425 (by decide) ?_
  refine mx_icmpeq (tgt := 431) hC dL_law_426 (by decide) (fun hc195 => ?_) (fun hc195 => ?_)
  · replace h := mj_yy hc195 h
    refine mx_sub (L' := [(0, vR (b + 1)), (1, vR l1), (2, vI l2), (3, vI l3), (4, vI l4), (5, vI l5), (6, vI (mj_b l6)), (7, vI l7), (8, vI (mj_b l8))]) [0, 1, 2, 3, 4, 5, 6, 7, 8] rfl ?_
    exact show mj_X g 431 [(0, vR (b + 1)), (1, vR l1), (2, vI l2), (3, vI l3), (4, vI l4), (5, vI l5), (6, vI (mj_b l6)), (7, vI l7), (8, vI (mj_b l8))] [] M194 149 3478 from (xb_L_law_431 hC hE hA l1 l2 l3 l4 l5 l6 l7 l8 M194 h)
  · replace h := mj_nn hc195 h
    refine mx_iconst (v := 0) hC dL_law_429 (by decide) ?_
    exact h.elim
set_option maxHeartbeats 4000000 in
set_option maxRecDepth 100000 in
theorem xb_L_law_395 {g : mj_G} {nm : String} {b Ln : Nat} {xs : Nat → Int32} (hC : mj_C g ⟨R_law, nm, ""⟩ code 19 ret room_1) (hE : mj_EL g) (hA : (mj_aa g).2.2.2 = (b, Ln, xs)) (l1 : Nat) (l2 : Int32) (l3 : Int32) (l4 : Int32) (l5 : Int32) (l6 : Bool) (l7 : Int32) (s0 : Bool) (M : mj_M) (h : vb_L_law_395 xs Ln l1 l2 l3 l4 l5 l6 l7 s0 M) : mj_X g 395 [(0, vR (b + 1)), (1, vR l1), (2, vI l2), (3, vI l3), (4, vI l4), (5, vI l5), (6, vI (mj_b l6)), (7, vI l7)] [vI (mj_b s0)] M 148 3463 := by
  simp only [vb_L_law_395] at h
  refine mx_istore (L' := [(8, vI (mj_b s0)), (0, vR ((b + 1))), (1, vR l1), (2, vI l2), (3, vI l3), (4, vI l4), (5, vI l5), (6, vI (mj_b l6)), (7, vI l7)]) hC dL_law_395 (by decide) rfl ?_
  refine mx_iload (j := 0) hC dL_law_397 rfl ?_
  refine mx_ifeqB (tgt := 431) hC dL_law_399 (by decide) (fun hc196 => ?_) (fun hc196 => ?_)
  · replace h := mj_nn hc196 h
    refine mx_sub (L' := [(0, vR (b + 1)), (1, vR l1), (2, vI l2), (3, vI l3), (4, vI l4), (5, vI l5), (6, vI (mj_b l6)), (7, vI l7), (8, vI (mj_b s0))]) [1, 2, 3, 4, 5, 6, 7, 8, 0] rfl ?_
    refine mx_widen (k' := 149) (n' := 3478) (by omega) (by omega) ?_
    exact show mj_X g 431 [(0, vR (b + 1)), (1, vR l1), (2, vI l2), (3, vI l3), (4, vI l4), (5, vI l5), (6, vI (mj_b l6)), (7, vI l7), (8, vI (mj_b s0))] [] M 149 3478 from (xb_L_law_431 hC hE hA l1 l2 l3 l4 l5 l6 l7 s0 M h)
  · replace h := mj_yy hc196 h
    refine mx_sub (L' := [(0, vR (b + 1)), (1, vR l1), (2, vI l2), (3, vI l3), (4, vI l4), (5, vI l5), (6, vI (mj_b l6)), (7, vI l7), (8, vI (mj_b s0))]) [1, 2, 3, 4, 5, 6, 7, 8, 0] rfl ?_
    exact show mj_X g 402 [(0, vR (b + 1)), (1, vR l1), (2, vI l2), (3, vI l3), (4, vI l4), (5, vI l5), (6, vI (mj_b l6)), (7, vI l7), (8, vI (mj_b s0))] [] M 148 3463 from (xb_L_law_402 hC hE hA l1 l2 l3 l4 l5 l6 l7 s0 M h)
set_option maxHeartbeats 4000000 in
set_option maxRecDepth 100000 in
theorem xb_L_law_380 {g : mj_G} {nm : String} {b Ln : Nat} {xs : Nat → Int32} (hC : mj_C g ⟨R_law, nm, ""⟩ code 19 ret room_1) (hE : mj_EL g) (hA : (mj_aa g).2.2.2 = (b, Ln, xs)) (l1 : Nat) (l2 : Int32) (l3 : Int32) (l4 : Int32) (l5 : Int32) (l6 : Bool) (l7 : Int32) (M : mj_M) (h : vb_L_law_380 xs Ln l1 l2 l3 l4 l5 l6 l7 M) : mj_X g 380 [(0, vR (b + 1)), (1, vR l1), (2, vI l2), (3, vI l3), (4, vI l4), (5, vI l5), (6, vI (mj_b l6)), (7, vI l7)] [] M 148 3463 := by
  simp only [vb_L_law_380] at h
  refine mx_aload_n (j := 0) hC dL_law_380 rfl rfl ?_
  refine mx_bipush (v := 6) hC dL_law_381 (by decide) ?_
  refine mx_iconst (v := 3) hC dL_law_383 (by decide) ?_
  refine mx_callS (inj := mj_jI) (As := [vR (b + 1), vI 6, vI 3]) (st := []) hC (ct_L_cell hA 6 3 M _ h) ty_L_cell tw948 rfl (Nat.le_of_ble_eq_true rfl) ⟨rfl, rfl, ⟨by decide, by decide⟩, by show _ ≤ 600000; omega, by show _ ≤ 7302250; omega⟩ dL_law_384 (fun r197 M198 h => ?_)
  show mj_X g 387 [(0, vR ((b + 1))), (1, vR l1), (2, vI l2), (3, vI l3), (4, vI l4), (5, vI l5), (6, vI (mj_b l6)), (7, vI l7)] [vI r197] M198 148 3463
  refine mx_ifne (tgt := 394) hC dL_law_387 (by decide) (fun hc199 => ?_) (fun hc199 => ?_)
  · replace h := mj_nn hc199 h
    refine mx_iconst (v := 0) hC dL_law_394 (by decide) ?_
    refine mx_sub (L' := [(0, vR (b + 1)), (1, vR l1), (2, vI l2), (3, vI l3), (4, vI l4), (5, vI l5), (6, vI (mj_b l6)), (7, vI l7)]) [0, 1, 2, 3, 4, 5, 6, 7] rfl ?_
    exact show mj_X g 395 [(0, vR (b + 1)), (1, vR l1), (2, vI l2), (3, vI l3), (4, vI l4), (5, vI l5), (6, vI (mj_b l6)), (7, vI l7)] [vI (mj_b false)] M198 148 3463 from (xb_L_law_395 hC hE hA l1 l2 l3 l4 l5 l6 l7 false M198 h)
  · replace h := mj_yy hc199 h
    refine mx_iconst (v := 1) hC dL_law_390 (by decide) ?_
    refine mx_goto (tgt := 395) hC dL_law_391 (by decide) ?_
    refine mx_sub (L' := [(0, vR (b + 1)), (1, vR l1), (2, vI l2), (3, vI l3), (4, vI l4), (5, vI l5), (6, vI (mj_b l6)), (7, vI l7)]) [0, 1, 2, 3, 4, 5, 6, 7] rfl ?_
    exact show mj_X g 395 [(0, vR (b + 1)), (1, vR l1), (2, vI l2), (3, vI l3), (4, vI l4), (5, vI l5), (6, vI (mj_b l6)), (7, vI l7)] [vI (mj_b true)] M198 148 3463 from (xb_L_law_395 hC hE hA l1 l2 l3 l4 l5 l6 l7 true M198 h)
set_option maxHeartbeats 4000000 in
set_option maxRecDepth 100000 in
theorem xb_L_law_348 {g : mj_G} {nm : String} {b Ln : Nat} {xs : Nat → Int32} (hC : mj_C g ⟨R_law, nm, ""⟩ code 19 ret room_1) (hE : mj_EL g) (hA : (mj_aa g).2.2.2 = (b, Ln, xs)) (l1 : Nat) (l2 : Int32) (l3 : Int32) (l4 : Int32) (l5 : Int32) (l6 : Bool) (M : mj_M) (h : vb_L_law_348 xs Ln l1 l2 l3 l4 l5 l6 M) : mj_X g 348 [(0, vR (b + 1)), (1, vR l1), (2, vI l2), (3, vI l3), (4, vI l4), (5, vI l5), (6, vI (mj_b l6))] [] M 148 3463 := by
  simp only [vb_L_law_348] at h
  refine mx_aload_n (j := 0) hC dL_law_348 rfl rfl ?_
  refine mx_iconst (v := 5) hC dL_law_349 (by decide) ?_
  refine mx_sipush (v := 250) hC dL_law_350 (by decide) ?_
  refine mx_callS (inj := mj_jI) (As := [vR (b + 1), vI 5, vI 250]) (st := []) hC (ct_L_cell hA 5 250 M _ h) ty_L_cell tw948 rfl (Nat.le_of_ble_eq_true rfl) ⟨rfl, rfl, ⟨by decide, by decide⟩, by show _ ≤ 600000; omega, by show _ ≤ 7302250; omega⟩ dL_law_353 (fun r200 M201 h => ?_)
  show mj_X g 356 [(0, vR ((b + 1))), (1, vR l1), (2, vI l2), (3, vI l3), (4, vI l4), (5, vI l5), (6, vI (mj_b l6))] [vI r200] M201 148 3463
  refine mx_istore (L' := [(7, vI r200), (0, vR ((b + 1))), (1, vR l1), (2, vI l2), (3, vI l3), (4, vI l4), (5, vI l5), (6, vI (mj_b l6))]) hC dL_law_356 (by decide) rfl ?_
  refine mx_aload_n (j := 2) hC dL_law_358 rfl rfl ?_
  refine mx_iload (j := 6) hC dL_law_359 rfl ?_
  refine mx_bipush (v := 30) hC dL_law_361 (by decide) ?_
  refine mx_iadd hC dL_law_363 ?_
  refine mx_iload (j := 0) hC dL_law_364 rfl ?_
  refine mx_iadd hC dL_law_366 ?_
  obtain ⟨ht202, h⟩ := h
  refine mx_callV (inj := mj_jI) (As := [vI ((l5 + 30) + r200)]) (st := []) hC (ct_X11_today l1 ((l5 + 30) + r200) M201 _ h) ty_X11_today tw267 ht202 rfl (Nat.le_of_ble_eq_true rfl) ⟨rfl, rfl, ⟨by decide, by decide⟩, by show _ ≤ 600000; omega, by show _ ≤ 7302250; omega⟩ dL_law_367 (fun r203 M204 h => ?_)
  show mj_X g 370 [(7, vI r200), (0, vR ((b + 1))), (1, vR l1), (2, vI l2), (3, vI l3), (4, vI l4), (5, vI l5), (6, vI (mj_b l6))] [vI r203] M204 148 3463
  refine mx_iload (j := 6) hC dL_law_370 rfl ?_
  refine mx_bipush (v := 30) hC dL_law_372 (by decide) ?_
  refine mx_iadd hC dL_law_374 ?_
  refine mx_icmpeq (tgt := 380) hC dL_law_375 (by decide) (fun hc205 => ?_) (fun hc205 => ?_)
  · replace h := mj_yy hc205 h
    refine mx_sub (L' := [(0, vR (b + 1)), (1, vR l1), (2, vI l2), (3, vI l3), (4, vI l4), (5, vI l5), (6, vI (mj_b l6)), (7, vI r200)]) [1, 2, 3, 4, 5, 6, 7, 0] rfl ?_
    exact show mj_X g 380 [(0, vR (b + 1)), (1, vR l1), (2, vI l2), (3, vI l3), (4, vI l4), (5, vI l5), (6, vI (mj_b l6)), (7, vI r200)] [] M204 148 3463 from (xb_L_law_380 hC hE hA l1 l2 l3 l4 l5 l6 r200 M204 h)
  · replace h := mj_nn hc205 h
    refine mx_iconst (v := 0) hC dL_law_378 (by decide) ?_
    exact h.elim
set_option maxHeartbeats 4000000 in
set_option maxRecDepth 100000 in
theorem xb_L_law_336 {g : mj_G} {nm : String} {b Ln : Nat} {xs : Nat → Int32} (hC : mj_C g ⟨R_law, nm, ""⟩ code 19 ret room_1) (hE : mj_EL g) (hA : (mj_aa g).2.2.2 = (b, Ln, xs)) (l1 : Nat) (l2 : Int32) (l3 : Int32) (l4 : Int32) (l5 : Int32) (l6 : Bool) (M : mj_M) (h : vb_L_law_336 xs Ln l1 l2 l3 l4 l5 l6 M) : mj_X g 336 [(0, vR (b + 1)), (1, vR l1), (2, vI l2), (3, vI l3), (4, vI l4), (5, vI l5), (6, vI (mj_b l6))] [] M 148 3463 := by
  simp only [vb_L_law_336] at h
  refine mx_aload_n (j := 1) hC dL_law_336 rfl rfl ?_
  refine mx_iconst (v := 0) hC dL_law_337 (by decide) ?_
  refine mx_iconst (v := (-1)) hC dL_law_338 (by decide) ?_
  obtain ⟨ht206, h⟩ := h
  refine mx_callV (inj := mj_jI) (As := [vI 0, vI ((-1))]) (st := []) hC (ct_X11_chain l1 0 ((-1)) M _ h) ty_X11_chain tw424 ht206 rfl (Nat.le_of_ble_eq_true rfl) ⟨rfl, rfl, ⟨by decide, by decide⟩, by show _ ≤ 600000; omega, by show _ ≤ 7302250; omega⟩ dL_law_339 (fun r207 M208 h => ?_)
  show mj_X g 342 [(0, vR ((b + 1))), (1, vR l1), (2, vI l2), (3, vI l3), (4, vI l4), (5, vI l5), (6, vI (mj_b l6))] [vI r207] M208 148 3463
  refine mx_iconst (v := 2) hC dL_law_342 (by decide) ?_
  refine mx_icmpeq (tgt := 348) hC dL_law_343 (by decide) (fun hc209 => ?_) (fun hc209 => ?_)
  · replace h := mj_yy hc209 h
    refine mx_sub (L' := [(0, vR (b + 1)), (1, vR l1), (2, vI l2), (3, vI l3), (4, vI l4), (5, vI l5), (6, vI (mj_b l6))]) [0, 1, 2, 3, 4, 5, 6] rfl ?_
    exact show mj_X g 348 [(0, vR (b + 1)), (1, vR l1), (2, vI l2), (3, vI l3), (4, vI l4), (5, vI l5), (6, vI (mj_b l6))] [] M208 148 3463 from (xb_L_law_348 hC hE hA l1 l2 l3 l4 l5 l6 M208 h)
  · replace h := mj_nn hc209 h
    refine mx_iconst (v := 0) hC dL_law_346 (by decide) ?_
    exact h.elim

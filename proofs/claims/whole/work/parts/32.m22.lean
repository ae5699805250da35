/-! methods 22. By program (wip/gen) out of the bytecode: vc_KEY: what must hold of a call; ct_KEY: then the machine does it. -/
def rm_X12_doubted : Room := { frames := 3, cells := 0, slots := 0, locals := 70 }
theorem dX12_doubted_0 : decode cX12_doubted 0 = .ok (.iconst 1, 1) := by decide +kernel
theorem dX12_doubted_1 : decode cX12_doubted 1 = .ok (.aload_n 0, 1) := by decide +kernel
theorem dX12_doubted_2 : decode cX12_doubted 2 = .ok (.getfield 418, 3) := by decide +kernel
theorem dX12_doubted_5 : decode cX12_doubted 5 = .ok (.ishl, 1) := by decide +kernel
theorem dX12_doubted_6 : decode cX12_doubted 6 = .ok (.iconst 1, 1) := by decide +kernel
theorem dX12_doubted_7 : decode cX12_doubted 7 = .ok (.isub, 1) := by decide +kernel
theorem dX12_doubted_8 : decode cX12_doubted 8 = .ok (.istore_n 2, 1) := by decide +kernel
theorem dX12_doubted_9 : decode cX12_doubted 9 = .ok (.bipush 99, 2) := by decide +kernel
theorem dX12_doubted_11 : decode cX12_doubted 11 = .ok (.istore_n 3, 1) := by decide +kernel
theorem dX12_doubted_12 : decode cX12_doubted 12 = .ok (.iconst 0, 1) := by decide +kernel
theorem dX12_doubted_13 : decode cX12_doubted 13 = .ok (.istore 4, 2) := by decide +kernel
theorem dX12_doubted_15 : decode cX12_doubted 15 = .ok (.iload 4, 2) := by decide +kernel
theorem dX12_doubted_17 : decode cX12_doubted 17 = .ok (.iload_n 2, 1) := by decide +kernel
theorem dX12_doubted_18 : decode cX12_doubted 18 = .ok (.if_icmp .gt 41, 3) := by decide +kernel
theorem dX12_doubted_21 : decode cX12_doubted 21 = .ok (.iload 4, 2) := by decide +kernel
theorem dX12_doubted_23 : decode cX12_doubted 23 = .ok (.invokestatic 261, 3) := by decide +kernel
theorem dX12_doubted_26 : decode cX12_doubted 26 = .ok (.iload_n 3, 1) := by decide +kernel
theorem dX12_doubted_27 : decode cX12_doubted 27 = .ok (.if_icmp .ge 24, 3) := by decide +kernel
theorem dX12_doubted_30 : decode cX12_doubted 30 = .ok (.aload_n 0, 1) := by decide +kernel
theorem dX12_doubted_31 : decode cX12_doubted 31 = .ok (.iload_n 2, 1) := by decide +kernel
theorem dX12_doubted_32 : decode cX12_doubted 32 = .ok (.iload 4, 2) := by decide +kernel
theorem dX12_doubted_34 : decode cX12_doubted 34 = .ok (.iconst (-1), 1) := by decide +kernel
theorem dX12_doubted_35 : decode cX12_doubted 35 = .ok (.ixor, 1) := by decide +kernel
theorem dX12_doubted_36 : decode cX12_doubted 36 = .ok (.iand, 1) := by decide +kernel
theorem dX12_doubted_37 : decode cX12_doubted 37 = .ok (.invokevirtual 427, 3) := by decide +kernel
theorem dX12_doubted_40 : decode cX12_doubted 40 = .ok (.ifCond .eq 11, 3) := by decide +kernel
theorem dX12_doubted_43 : decode cX12_doubted 43 = .ok (.iload 4, 2) := by decide +kernel
theorem dX12_doubted_45 : decode cX12_doubted 45 = .ok (.invokestatic 261, 3) := by decide +kernel
theorem dX12_doubted_48 : decode cX12_doubted 48 = .ok (.goto 4, 3) := by decide +kernel
theorem dX12_doubted_51 : decode cX12_doubted 51 = .ok (.iload_n 3, 1) := by decide +kernel
theorem dX12_doubted_52 : decode cX12_doubted 52 = .ok (.istore_n 3, 1) := by decide +kernel
theorem dX12_doubted_53 : decode cX12_doubted 53 = .ok (.iinc 4 1, 3) := by decide +kernel
theorem dX12_doubted_56 : decode cX12_doubted 56 = .ok (.goto (-41), 3) := by decide +kernel
theorem dX12_doubted_59 : decode cX12_doubted 59 = .ok (.iconst 0, 1) := by decide +kernel
theorem dX12_doubted_60 : decode cX12_doubted 60 = .ok (.istore 4, 2) := by decide +kernel
theorem dX12_doubted_62 : decode cX12_doubted 62 = .ok (.iconst 0, 1) := by decide +kernel
theorem dX12_doubted_63 : decode cX12_doubted 63 = .ok (.istore 5, 2) := by decide +kernel
theorem dX12_doubted_65 : decode cX12_doubted 65 = .ok (.iload 5, 2) := by decide +kernel
theorem dX12_doubted_67 : decode cX12_doubted 67 = .ok (.iload_n 2, 1) := by decide +kernel
theorem dX12_doubted_68 : decode cX12_doubted 68 = .ok (.if_icmp .gt 43, 3) := by decide +kernel
theorem dX12_doubted_71 : decode cX12_doubted 71 = .ok (.iload 5, 2) := by decide +kernel
theorem dX12_doubted_73 : decode cX12_doubted 73 = .ok (.invokestatic 261, 3) := by decide +kernel
theorem dX12_doubted_76 : decode cX12_doubted 76 = .ok (.iload_n 3, 1) := by decide +kernel
theorem dX12_doubted_77 : decode cX12_doubted 77 = .ok (.if_icmp .ne 28, 3) := by decide +kernel
theorem dX12_doubted_80 : decode cX12_doubted 80 = .ok (.aload_n 0, 1) := by decide +kernel
theorem dX12_doubted_81 : decode cX12_doubted 81 = .ok (.iload_n 2, 1) := by decide +kernel
theorem dX12_doubted_82 : decode cX12_doubted 82 = .ok (.iload 5, 2) := by decide +kernel
theorem dX12_doubted_84 : decode cX12_doubted 84 = .ok (.iconst (-1), 1) := by decide +kernel
theorem dX12_doubted_85 : decode cX12_doubted 85 = .ok (.ixor, 1) := by decide +kernel
theorem dX12_doubted_86 : decode cX12_doubted 86 = .ok (.iand, 1) := by decide +kernel
theorem dX12_doubted_87 : decode cX12_doubted 87 = .ok (.invokevirtual 427, 3) := by decide +kernel
theorem dX12_doubted_90 : decode cX12_doubted 90 = .ok (.ifCond .eq 15, 3) := by decide +kernel
theorem dX12_doubted_93 : decode cX12_doubted 93 = .ok (.iload 4, 2) := by decide +kernel
theorem dX12_doubted_95 : decode cX12_doubted 95 = .ok (.iload_n 1, 1) := by decide +kernel
theorem dX12_doubted_96 : decode cX12_doubted 96 = .ok (.if_icmp .ne 6, 3) := by decide +kernel
theorem dX12_doubted_99 : decode cX12_doubted 99 = .ok (.iload 5, 2) := by decide +kernel
theorem dX12_doubted_101 : decode cX12_doubted 101 = .ok (.ireturn, 1) := by decide +kernel
theorem dX12_doubted_102 : decode cX12_doubted 102 = .ok (.iinc 4 1, 3) := by decide +kernel
theorem dX12_doubted_105 : decode cX12_doubted 105 = .ok (.iinc 5 1, 3) := by decide +kernel
theorem dX12_doubted_108 : decode cX12_doubted 108 = .ok (.goto (-43), 3) := by decide +kernel
theorem dX12_doubted_111 : decode cX12_doubted 111 = .ok (.iload_n 1, 1) := by decide +kernel
theorem dX12_doubted_112 : decode cX12_doubted 112 = .ok (.iconst (-1), 1) := by decide +kernel
theorem dX12_doubted_113 : decode cX12_doubted 113 = .ok (.if_icmp .ne 8, 3) := by decide +kernel
theorem dX12_doubted_116 : decode cX12_doubted 116 = .ok (.iload 4, 2) := by decide +kernel
theorem dX12_doubted_118 : decode cX12_doubted 118 = .ok (.goto 5, 3) := by decide +kernel
theorem dX12_doubted_121 : decode cX12_doubted 121 = .ok (.bipush (-6), 2) := by decide +kernel
theorem dX12_doubted_123 : decode cX12_doubted 123 = .ok (.ireturn, 1) := by decide +kernel
def vb_X12_doubted_65 (post : Int32 → mj_M → Prop) : Nat → Nat → Int32 → Int32 → Int32 → Int32 → Int32 → mj_M → Prop
  | 0 => fun _ _ _ _ _ _ _ => False
  | f + 1 => fun l0 l1 l2 l3 l4 l5 M => if l2 < l5 then (if l1 = ((-1)) then (post l4 M) else (post ((-6)) M)) else (vc_X12_ones l5 M (fun r3 M4 => if r3 = l3 then (mj_tag M4 l0 = 13 ∧ vc_X12_canBe l0 (l2 &&& (l5 ^^^ ((-1)))) M4 (fun r7 M8 => if r7 = true then (if l4 = l1 then (post l5 M8) else (vb_X12_doubted_65 post f l0 l1 l2 l3 (l4 + 1) (l5 + 1) M8)) else (vb_X12_doubted_65 post f l0 l1 l2 l3 l4 (l5 + 1) M8))) else (vb_X12_doubted_65 post f l0 l1 l2 l3 l4 (l5 + 1) M4)))
def vb_X12_doubted_15 (post : Int32 → mj_M → Prop) : Nat → Nat → Int32 → Int32 → Int32 → Int32 → mj_M → Prop
  | 0 => fun _ _ _ _ _ _ => False
  | f + 1 => fun l0 l1 l2 l3 l4 M => if l2 < l4 then (∃ fe, vb_X12_doubted_65 post fe l0 l1 l2 l3 0 0 M) else (vc_X12_ones l4 M (fun r12 M13 => if l3 ≤ r12 then (vb_X12_doubted_15 post f l0 l1 l2 l3 (l4 + 1) M13) else (mj_tag M13 l0 = 13 ∧ vc_X12_canBe l0 (l2 &&& (l4 ^^^ ((-1)))) M13 (fun r16 M17 => if r16 = true then (vc_X12_ones l4 M17 (fun r19 M20 => vb_X12_doubted_15 post f l0 l1 l2 r19 (l4 + 1) M20)) else (vb_X12_doubted_15 post f l0 l1 l2 l3 (l4 + 1) M17)))))
def vc_X12_doubted (l0 : Nat) (l1 : Int32) (M : mj_M) (post : Int32 → mj_M → Prop) : Prop := mj_tag M l0 = 13 ∧ ∃ fe, vb_X12_doubted_15 post fe l0 l1 ((1 <<< ((mj_i M l0 53) &&& 31)) - 1) 99 0 M
set_option maxHeartbeats 4000000 in
set_option maxRecDepth 100000 in
theorem xb_X12_doubted_65 {g : mj_G} {post : Int32 → mj_M → Prop} (hC : mj_C g yX12_doubted cX12_doubted 6 (some .int) rm_X12_doubted) (hE : mj_E g mj_jI post 0 0) : ∀ (f : Nat) (l0 : Nat) (l1 : Int32) (l2 : Int32) (l3 : Int32) (l4 : Int32) (l5 : Int32) (M : mj_M), vb_X12_doubted_65 post f l0 l1 l2 l3 l4 l5 M → mj_X g 65 [(0, vR l0), (1, vI l1), (2, vI l2), (3, vI l3), (4, vI l4), (5, vI l5)] [] M 0 0 := by
  intro f
  induction f with
  | zero => exact fun _ _ _ _ _ _ _ h => absurd h (fun z => z)
  | succ f ih =>
    intro l0 l1 l2 l3 l4 l5 M h
    simp only [vb_X12_doubted_65] at h
    refine mx_iload (j := 5) hC dX12_doubted_65 rfl ?_
    refine mx_iload_n (j := 2) hC dX12_doubted_67 rfl rfl ?_
    refine mx_icmpgt (tgt := 111) hC dX12_doubted_68 (by decide) (fun hc1 => ?_) (fun hc1 => ?_)
    · replace h := mj_yy hc1 h
      refine mx_iload_n (j := 1) hC dX12_doubted_111 rfl rfl ?_
      refine mx_iconst (v := (-1)) hC dX12_doubted_112 (by decide) ?_
      refine mx_icmpne (tgt := 121) hC dX12_doubted_113 (by decide) (fun hc2 => ?_) (fun hc2 => ?_)
      · replace h := mj_nn hc2 h
        refine mx_bipush (v := (-6)) hC dX12_doubted_121 (by decide) ?_
        exact mx_iret hC hE rfl dX12_doubted_123 h
      · replace h := mj_yy hc2 h
        refine mx_iload (j := 4) hC dX12_doubted_116 rfl ?_
        refine mx_goto (tgt := 123) hC dX12_doubted_118 (by decide) ?_
        exact mx_iret hC hE rfl dX12_doubted_123 h
    · replace h := mj_nn hc1 h
      refine mx_iload (j := 5) hC dX12_doubted_71 rfl ?_
      refine mx_callS (inj := mj_jI) (As := [vI l5]) (st := []) hC (ct_X12_ones l5 M _ h) ty_X12_ones tw1585 rfl (Nat.le_of_ble_eq_true rfl) ⟨rfl, rfl, ⟨by decide, by decide⟩, by decide, by decide⟩ dX12_doubted_73 (fun r3 M4 h => ?_)
      show mj_X g 76 [(0, vR l0), (1, vI l1), (2, vI l2), (3, vI l3), (4, vI l4), (5, vI l5)] [vI r3] M4 0 0
      refine mx_iload_n (j := 3) hC dX12_doubted_76 rfl rfl ?_
      refine mx_icmpne (tgt := 105) hC dX12_doubted_77 (by decide) (fun hc5 => ?_) (fun hc5 => ?_)
      · replace h := mj_nn hc5 h
        refine mx_iinc (j := 5) (v := l5 + 1) (L' := [(5, vI (l5 + 1)), (0, vR l0), (1, vI l1), (2, vI l2), (3, vI l3), (4, vI l4)]) hC dX12_doubted_105 rfl rfl (by decide) rfl ?_
        refine mx_goto (tgt := 65) hC dX12_doubted_108 (by decide) ?_
        refine mx_sub (L' := [(0, vR l0), (1, vI l1), (2, vI l2), (3, vI l3), (4, vI l4), (5, vI (l5 + 1))]) [1, 2, 3, 4, 5, 0] rfl ?_
        exact show mj_X g 65 [(0, vR l0), (1, vI l1), (2, vI l2), (3, vI l3), (4, vI l4), (5, vI (l5 + 1))] [] M4 0 0 from (ih l0 l1 l2 l3 l4 (l5 + 1) M4 h)
      · replace h := mj_yy hc5 h
        refine mx_aload_n (j := 0) hC dX12_doubted_80 rfl rfl ?_
        refine mx_iload_n (j := 2) hC dX12_doubted_81 rfl rfl ?_
        refine mx_iload (j := 5) hC dX12_doubted_82 rfl ?_
        refine mx_iconst (v := (-1)) hC dX12_doubted_84 (by decide) ?_
        refine mx_ixor hC dX12_doubted_85 ?_
        refine mx_iand hC dX12_doubted_86 ?_
        obtain ⟨ht6, h⟩ := h
        refine mx_callV (inj := mj_jB) (As := [vI (l2 &&& (l5 ^^^ ((-1))))]) (st := []) hC (ct_X12_canBe l0 (l2 &&& (l5 ^^^ ((-1)))) M4 _ h) ty_X12_canBe tw1808 ht6 rfl (Nat.le_of_ble_eq_true rfl) ⟨rfl, rfl, ⟨by decide, by decide⟩, by decide, by decide⟩ dX12_doubted_87 (fun r7 M8 h => ?_)
        show mj_X g 90 [(0, vR l0), (1, vI l1), (2, vI l2), (3, vI l3), (4, vI l4), (5, vI l5)] [vI (mj_b r7)] M8 0 0
        refine mx_ifeqB (tgt := 105) hC dX12_doubted_90 (by decide) (fun hc9 => ?_) (fun hc9 => ?_)
        · replace h := mj_nn hc9 h
          refine mx_iinc (j := 5) (v := l5 + 1) (L' := [(5, vI (l5 + 1)), (0, vR l0), (1, vI l1), (2, vI l2), (3, vI l3), (4, vI l4)]) hC dX12_doubted_105 rfl rfl (by decide) rfl ?_
          refine mx_goto (tgt := 65) hC dX12_doubted_108 (by decide) ?_
          refine mx_sub (L' := [(0, vR l0), (1, vI l1), (2, vI l2), (3, vI l3), (4, vI l4), (5, vI (l5 + 1))]) [1, 2, 3, 4, 5, 0] rfl ?_
          exact show mj_X g 65 [(0, vR l0), (1, vI l1), (2, vI l2), (3, vI l3), (4, vI l4), (5, vI (l5 + 1))] [] M8 0 0 from (ih l0 l1 l2 l3 l4 (l5 + 1) M8 h)
        · replace h := mj_yy hc9 h
          refine mx_iload (j := 4) hC dX12_doubted_93 rfl ?_
          refine mx_iload_n (j := 1) hC dX12_doubted_95 rfl rfl ?_
          refine mx_icmpne (tgt := 102) hC dX12_doubted_96 (by decide) (fun hc10 => ?_) (fun hc10 => ?_)
          · replace h := mj_nn hc10 h
            refine mx_iinc (j := 4) (v := l4 + 1) (L' := [(4, vI (l4 + 1)), (0, vR l0), (1, vI l1), (2, vI l2), (3, vI l3), (5, vI l5)]) hC dX12_doubted_102 rfl rfl (by decide) rfl ?_
            refine mx_iinc (j := 5) (v := l5 + 1) (L' := [(5, vI (l5 + 1)), (4, vI (l4 + 1)), (0, vR l0), (1, vI l1), (2, vI l2), (3, vI l3)]) hC dX12_doubted_105 rfl rfl (by decide) rfl ?_
            refine mx_goto (tgt := 65) hC dX12_doubted_108 (by decide) ?_
            refine mx_sub (L' := [(0, vR l0), (1, vI l1), (2, vI l2), (3, vI l3), (4, vI (l4 + 1)), (5, vI (l5 + 1))]) [2, 3, 4, 5, 1, 0] rfl ?_
            exact show mj_X g 65 [(0, vR l0), (1, vI l1), (2, vI l2), (3, vI l3), (4, vI (l4 + 1)), (5, vI (l5 + 1))] [] M8 0 0 from (ih l0 l1 l2 l3 (l4 + 1) (l5 + 1) M8 h)
          · replace h := mj_yy hc10 h
            refine mx_iload (j := 5) hC dX12_doubted_99 rfl ?_
            exact mx_iret hC hE rfl dX12_doubted_101 h
set_option maxHeartbeats 4000000 in
set_option maxRecDepth 100000 in
theorem xb_X12_doubted_15 {g : mj_G} {post : Int32 → mj_M → Prop} (hC : mj_C g yX12_doubted cX12_doubted 6 (some .int) rm_X12_doubted) (hE : mj_E g mj_jI post 0 0) : ∀ (f : Nat) (l0 : Nat) (l1 : Int32) (l2 : Int32) (l3 : Int32) (l4 : Int32) (M : mj_M), vb_X12_doubted_15 post f l0 l1 l2 l3 l4 M → mj_X g 15 [(0, vR l0), (1, vI l1), (2, vI l2), (3, vI l3), (4, vI l4)] [] M 0 0 := by
  intro f
  induction f with
  | zero => exact fun _ _ _ _ _ _ h => absurd h (fun z => z)
  | succ f ih =>
    intro l0 l1 l2 l3 l4 M h
    simp only [vb_X12_doubted_15] at h
    refine mx_iload (j := 4) hC dX12_doubted_15 rfl ?_
    refine mx_iload_n (j := 2) hC dX12_doubted_17 rfl rfl ?_
    refine mx_icmpgt (tgt := 59) hC dX12_doubted_18 (by decide) (fun hc11 => ?_) (fun hc11 => ?_)
    · replace h := mj_yy hc11 h
      refine mx_iconst (v := 0) hC dX12_doubted_59 (by decide) ?_
      refine mx_istore (L' := [(4, vI 0), (0, vR l0), (1, vI l1), (2, vI l2), (3, vI l3)]) hC dX12_doubted_60 (by decide) rfl ?_
      refine mx_iconst (v := 0) hC dX12_doubted_62 (by decide) ?_
      refine mx_istore (L' := [(5, vI 0), (4, vI 0), (0, vR l0), (1, vI l1), (2, vI l2), (3, vI l3)]) hC dX12_doubted_63 (by decide) rfl ?_
      refine mx_sub (L' := [(0, vR l0), (1, vI l1), (2, vI l2), (3, vI l3), (4, vI 0), (5, vI 0)]) [2, 3, 4, 5, 1, 0] rfl ?_
      obtain ⟨fe, h⟩ := h
      exact show mj_X g 65 [(0, vR l0), (1, vI l1), (2, vI l2), (3, vI l3), (4, vI 0), (5, vI 0)] [] M 0 0 from (xb_X12_doubted_65 hC hE fe l0 l1 l2 l3 0 0 M h)
    · replace h := mj_nn hc11 h
      refine mx_iload (j := 4) hC dX12_doubted_21 rfl ?_
      refine mx_callS (inj := mj_jI) (As := [vI l4]) (st := []) hC (ct_X12_ones l4 M _ h) ty_X12_ones tw1585 rfl (Nat.le_of_ble_eq_true rfl) ⟨rfl, rfl, ⟨by decide, by decide⟩, by decide, by decide⟩ dX12_doubted_23 (fun r12 M13 h => ?_)
      show mj_X g 26 [(0, vR l0), (1, vI l1), (2, vI l2), (3, vI l3), (4, vI l4)] [vI r12] M13 0 0
      refine mx_iload_n (j := 3) hC dX12_doubted_26 rfl rfl ?_
      refine mx_icmpge (tgt := 51) hC dX12_doubted_27 (by decide) (fun hc14 => ?_) (fun hc14 => ?_)
      · replace h := mj_yy hc14 h
        refine mx_iload_n (j := 3) hC dX12_doubted_51 rfl rfl ?_
        refine mx_istore_n (L' := [(3, vI l3), (0, vR l0), (1, vI l1), (2, vI l2), (4, vI l4)]) hC dX12_doubted_52 rfl (by decide) rfl ?_
        refine mx_iinc (j := 4) (v := l4 + 1) (L' := [(4, vI (l4 + 1)), (3, vI l3), (0, vR l0), (1, vI l1), (2, vI l2)]) hC dX12_doubted_53 rfl rfl (by decide) rfl ?_
        refine mx_goto (tgt := 15) hC dX12_doubted_56 (by decide) ?_
        refine mx_sub (L' := [(0, vR l0), (1, vI l1), (2, vI l2), (3, vI l3), (4, vI (l4 + 1))]) [2, 3, 4, 1, 0] rfl ?_
        exact show mj_X g 15 [(0, vR l0), (1, vI l1), (2, vI l2), (3, vI l3), (4, vI (l4 + 1))] [] M13 0 0 from (ih l0 l1 l2 l3 (l4 + 1) M13 h)
      · replace h := mj_nn hc14 h
        refine mx_aload_n (j := 0) hC dX12_doubted_30 rfl rfl ?_
        refine mx_iload_n (j := 2) hC dX12_doubted_31 rfl rfl ?_
        refine mx_iload (j := 4) hC dX12_doubted_32 rfl ?_
        refine mx_iconst (v := (-1)) hC dX12_doubted_34 (by decide) ?_
        refine mx_ixor hC dX12_doubted_35 ?_
        refine mx_iand hC dX12_doubted_36 ?_
        obtain ⟨ht15, h⟩ := h
        refine mx_callV (inj := mj_jB) (As := [vI (l2 &&& (l4 ^^^ ((-1))))]) (st := []) hC (ct_X12_canBe l0 (l2 &&& (l4 ^^^ ((-1)))) M13 _ h) ty_X12_canBe tw1808 ht15 rfl (Nat.le_of_ble_eq_true rfl) ⟨rfl, rfl, ⟨by decide, by decide⟩, by decide, by decide⟩ dX12_doubted_37 (fun r16 M17 h => ?_)
        show mj_X g 40 [(0, vR l0), (1, vI l1), (2, vI l2), (3, vI l3), (4, vI l4)] [vI (mj_b r16)] M17 0 0
        refine mx_ifeqB (tgt := 51) hC dX12_doubted_40 (by decide) (fun hc18 => ?_) (fun hc18 => ?_)
        · replace h := mj_nn hc18 h
          refine mx_iload_n (j := 3) hC dX12_doubted_51 rfl rfl ?_
          refine mx_istore_n (L' := [(3, vI l3), (0, vR l0), (1, vI l1), (2, vI l2), (4, vI l4)]) hC dX12_doubted_52 rfl (by decide) rfl ?_
          refine mx_iinc (j := 4) (v := l4 + 1) (L' := [(4, vI (l4 + 1)), (3, vI l3), (0, vR l0), (1, vI l1), (2, vI l2)]) hC dX12_doubted_53 rfl rfl (by decide) rfl ?_
          refine mx_goto (tgt := 15) hC dX12_doubted_56 (by decide) ?_
          refine mx_sub (L' := [(0, vR l0), (1, vI l1), (2, vI l2), (3, vI l3), (4, vI (l4 + 1))]) [2, 3, 4, 1, 0] rfl ?_
          exact show mj_X g 15 [(0, vR l0), (1, vI l1), (2, vI l2), (3, vI l3), (4, vI (l4 + 1))] [] M17 0 0 from (ih l0 l1 l2 l3 (l4 + 1) M17 h)
        · replace h := mj_yy hc18 h
          refine mx_iload (j := 4) hC dX12_doubted_43 rfl ?_
          refine mx_callS (inj := mj_jI) (As := [vI l4]) (st := []) hC (ct_X12_ones l4 M17 _ h) ty_X12_ones tw1585 rfl (Nat.le_of_ble_eq_true rfl) ⟨rfl, rfl, ⟨by decide, by decide⟩, by decide, by decide⟩ dX12_doubted_45 (fun r19 M20 h => ?_)
          show mj_X g 48 [(0, vR l0), (1, vI l1), (2, vI l2), (3, vI l3), (4, vI l4)] [vI r19] M20 0 0
          refine mx_goto (tgt := 52) hC dX12_doubted_48 (by decide) ?_
          refine mx_istore_n (L' := [(3, vI r19), (0, vR l0), (1, vI l1), (2, vI l2), (4, vI l4)]) hC dX12_doubted_52 rfl (by decide) rfl ?_
          refine mx_iinc (j := 4) (v := l4 + 1) (L' := [(4, vI (l4 + 1)), (3, vI r19), (0, vR l0), (1, vI l1), (2, vI l2)]) hC dX12_doubted_53 rfl rfl (by decide) rfl ?_
          refine mx_goto (tgt := 15) hC dX12_doubted_56 (by decide) ?_
          refine mx_sub (L' := [(0, vR l0), (1, vI l1), (2, vI l2), (3, vI r19), (4, vI (l4 + 1))]) [2, 3, 4, 1, 0] rfl ?_
          exact show mj_X g 15 [(0, vR l0), (1, vI l1), (2, vI l2), (3, vI r19), (4, vI (l4 + 1))] [] M20 0 0 from (ih l0 l1 l2 r19 (l4 + 1) M20 h)
set_option maxHeartbeats 4000000 in
set_option maxRecDepth 100000 in
theorem ct_X12_doubted {l : Launch} {base : Nat} {D : va_G} {A : ClassId × ClassId × ClassId} (l0 : Nat) (l1 : Int32) (M : mj_M) (post : Int32 → mj_M → Prop) (h : vc_X12_doubted l0 l1 M post) : mj_Met l base D A mj_jI yX12_doubted cX12_doubted 6 (some .int) rm_X12_doubted 0 0 [vR l0, vI l1] M post := by
  refine mj_entry (by decide +kernel) (Nat.le_of_ble_eq_true rfl) (fun g hC hE h1 h2 h3 h4 => ?_)
  show mj_X g 0 [(0, vR l0), (1, vI l1)] [] M 0 0
  simp only [vc_X12_doubted] at h
  refine mx_iconst (v := 1) hC dX12_doubted_0 (by decide) ?_
  refine mx_aload_n (j := 0) hC dX12_doubted_1 rfl rfl ?_
  obtain ⟨ht21, h⟩ := h
  refine mx_get (v := vI (mj_i M l0 53)) hC tf_X12_418 ht21 rfl dX12_doubted_2 ?_
  refine mx_ishl hC dX12_doubted_5 ?_
  refine mx_iconst (v := 1) hC dX12_doubted_6 (by decide) ?_
  refine mx_isub hC dX12_doubted_7 ?_
  refine mx_istore_n (L' := [(2, vI ((1 <<< ((mj_i M l0 53) &&& 31)) - 1)), (0, vR l0), (1, vI l1)]) hC dX12_doubted_8 rfl (by decide) rfl ?_
  refine mx_bipush (v := 99) hC dX12_doubted_9 (by decide) ?_
  refine mx_istore_n (L' := [(3, vI 99), (2, vI ((1 <<< ((mj_i M l0 53) &&& 31)) - 1)), (0, vR l0), (1, vI l1)]) hC dX12_doubted_11 rfl (by decide) rfl ?_
  refine mx_iconst (v := 0) hC dX12_doubted_12 (by decide) ?_
  refine mx_istore (L' := [(4, vI 0), (3, vI 99), (2, vI ((1 <<< ((mj_i M l0 53) &&& 31)) - 1)), (0, vR l0), (1, vI l1)]) hC dX12_doubted_13 (by decide) rfl ?_
  refine mx_sub (L' := [(0, vR l0), (1, vI l1), (2, vI ((1 <<< ((mj_i M l0 53) &&& 31)) - 1)), (3, vI 99), (4, vI 0)]) [3, 4, 2, 1, 0] rfl ?_
  obtain ⟨fe, h⟩ := h
  exact show mj_X g 15 [(0, vR l0), (1, vI l1), (2, vI ((1 <<< ((mj_i M l0 53) &&& 31)) - 1)), (3, vI 99), (4, vI 0)] [] M 0 0 from (xb_X12_doubted_15 hC hE fe l0 l1 ((1 <<< ((mj_i M l0 53) &&& 31)) - 1) 99 0 M h)
theorem tw1828 : (Jvm.Cond.constantLong "LeaseLandModel" (430 : Nat) (21 : Int64)) ∈ mj_tbl := mj_w 1881 (by decide +kernel) (by decide +kernel)
theorem tw1829 : (Jvm.Cond.constantLong "LeaseLandModel" (432 : Nat) (30 : Int64)) ∈ mj_tbl := mj_w 1882 (by decide +kernel) (by decide +kernel)
theorem tw1830 : (Jvm.Cond.constantLong "LeaseLandModel" (434 : Nat) (41 : Int64)) ∈ mj_tbl := mj_w 1883 (by decide +kernel) (by decide +kernel)
def rm_X12_told : Room := { frames := 1, cells := 0, slots := 0, locals := 25 }
theorem dX12_told_0 : decode cX12_told 0 = .ok (.iload_n 1, 1) := by decide +kernel
theorem dX12_told_1 : decode cX12_told 1 = .ok (.i2l, 1) := by decide +kernel
theorem dX12_told_2 : decode cX12_told 2 = .ok (.ldc2_w 388, 3) := by decide +kernel
theorem dX12_told_5 : decode cX12_told 5 = .ok (.ldc2_w 430, 3) := by decide +kernel
theorem dX12_told_8 : decode cX12_told 8 = .ok (.invokestatic 133, 3) := by decide +kernel
theorem dX12_told_11 : decode cX12_told 11 = .ok (.ifCond .eq 13, 3) := by decide +kernel
theorem dX12_told_14 : decode cX12_told 14 = .ok (.aload_n 0, 1) := by decide +kernel
theorem dX12_told_15 : decode cX12_told 15 = .ok (.getfield 92, 3) := by decide +kernel
theorem dX12_told_18 : decode cX12_told 18 = .ok (.iload_n 1, 1) := by decide +kernel
theorem dX12_told_19 : decode cX12_told 19 = .ok (.bipush 10, 2) := by decide +kernel
theorem dX12_told_21 : decode cX12_told 21 = .ok (.isub, 1) := by decide +kernel
theorem dX12_told_22 : decode cX12_told 22 = .ok (.iaload, 1) := by decide +kernel
theorem dX12_told_23 : decode cX12_told 23 = .ok (.ireturn, 1) := by decide +kernel
theorem dX12_told_24 : decode cX12_told 24 = .ok (.iload_n 1, 1) := by decide +kernel
theorem dX12_told_25 : decode cX12_told 25 = .ok (.i2l, 1) := by decide +kernel
theorem dX12_told_26 : decode cX12_told 26 = .ok (.ldc2_w 432, 3) := by decide +kernel
theorem dX12_told_29 : decode cX12_told 29 = .ok (.ldc2_w 434, 3) := by decide +kernel
theorem dX12_told_32 : decode cX12_told 32 = .ok (.invokestatic 133, 3) := by decide +kernel
theorem dX12_told_35 : decode cX12_told 35 = .ok (.ifCond .eq 13, 3) := by decide +kernel
theorem dX12_told_38 : decode cX12_told 38 = .ok (.aload_n 0, 1) := by decide +kernel
theorem dX12_told_39 : decode cX12_told 39 = .ok (.getfield 46, 3) := by decide +kernel
theorem dX12_told_42 : decode cX12_told 42 = .ok (.iload_n 1, 1) := by decide +kernel
theorem dX12_told_43 : decode cX12_told 43 = .ok (.bipush 30, 2) := by decide +kernel
theorem dX12_told_45 : decode cX12_told 45 = .ok (.isub, 1) := by decide +kernel
theorem dX12_told_46 : decode cX12_told 46 = .ok (.iaload, 1) := by decide +kernel
theorem dX12_told_47 : decode cX12_told 47 = .ok (.ireturn, 1) := by decide +kernel
theorem dX12_told_48 : decode cX12_told 48 = .ok (.iload_n 1, 1) := by decide +kernel
theorem dX12_told_49 : decode cX12_told 49 = .ok (.tableswitch 108 (-1) 8 #[55, 60, 65, 73, 78, 83, 88, 93, 98, 103], 55) := by decide +kernel
theorem dX12_told_104 : decode cX12_told 104 = .ok (.aload_n 0, 1) := by decide +kernel
theorem dX12_told_105 : decode cX12_told 105 = .ok (.getfield 151, 3) := by decide +kernel
theorem dX12_told_108 : decode cX12_told 108 = .ok (.ireturn, 1) := by decide +kernel
theorem dX12_told_109 : decode cX12_told 109 = .ok (.aload_n 0, 1) := by decide +kernel
theorem dX12_told_110 : decode cX12_told 110 = .ok (.getfield 130, 3) := by decide +kernel
theorem dX12_told_113 : decode cX12_told 113 = .ok (.ireturn, 1) := by decide +kernel
theorem dX12_told_114 : decode cX12_told 114 = .ok (.aload_n 0, 1) := by decide +kernel
theorem dX12_told_115 : decode cX12_told 115 = .ok (.getfield 55, 3) := by decide +kernel
theorem dX12_told_118 : decode cX12_told 118 = .ok (.bipush 12, 2) := by decide +kernel
theorem dX12_told_120 : decode cX12_told 120 = .ok (.iaload, 1) := by decide +kernel
theorem dX12_told_121 : decode cX12_told 121 = .ok (.ireturn, 1) := by decide +kernel
theorem dX12_told_122 : decode cX12_told 122 = .ok (.aload_n 0, 1) := by decide +kernel
theorem dX12_told_123 : decode cX12_told 123 = .ok (.getfield 258, 3) := by decide +kernel
theorem dX12_told_126 : decode cX12_told 126 = .ok (.ireturn, 1) := by decide +kernel
theorem dX12_told_127 : decode cX12_told 127 = .ok (.aload_n 0, 1) := by decide +kernel
theorem dX12_told_128 : decode cX12_told 128 = .ok (.getfield 290, 3) := by decide +kernel
theorem dX12_told_131 : decode cX12_told 131 = .ok (.ireturn, 1) := by decide +kernel
theorem dX12_told_132 : decode cX12_told 132 = .ok (.aload_n 0, 1) := by decide +kernel
theorem dX12_told_133 : decode cX12_told 133 = .ok (.getfield 334, 3) := by decide +kernel
theorem dX12_told_136 : decode cX12_told 136 = .ok (.ireturn, 1) := by decide +kernel
theorem dX12_told_137 : decode cX12_told 137 = .ok (.aload_n 0, 1) := by decide +kernel
theorem dX12_told_138 : decode cX12_told 138 = .ok (.getfield 351, 3) := by decide +kernel
theorem dX12_told_141 : decode cX12_told 141 = .ok (.ireturn, 1) := by decide +kernel
theorem dX12_told_142 : decode cX12_told 142 = .ok (.aload_n 0, 1) := by decide +kernel
theorem dX12_told_143 : decode cX12_told 143 = .ok (.getfield 418, 3) := by decide +kernel
theorem dX12_told_146 : decode cX12_told 146 = .ok (.ireturn, 1) := by decide +kernel
theorem dX12_told_147 : decode cX12_told 147 = .ok (.aload_n 0, 1) := by decide +kernel
theorem dX12_told_148 : decode cX12_told 148 = .ok (.getfield 107, 3) := by decide +kernel
theorem dX12_told_151 : decode cX12_told 151 = .ok (.ireturn, 1) := by decide +kernel
theorem dX12_told_152 : decode cX12_told 152 = .ok (.aload_n 0, 1) := by decide +kernel
theorem dX12_told_153 : decode cX12_told 153 = .ok (.getfield 111, 3) := by decide +kernel
theorem dX12_told_156 : decode cX12_told 156 = .ok (.ireturn, 1) := by decide +kernel
theorem dX12_told_157 : decode cX12_told 157 = .ok (.bipush (-2), 2) := by decide +kernel
theorem dX12_told_159 : decode cX12_told 159 = .ok (.ireturn, 1) := by decide +kernel
def vc_X12_told (l0 : Nat) (l1 : Int32) (M : mj_M) (post : Int32 → mj_M → Prop) : Prop := vc_X12_in ((l1 : Int32).toInt64) 10 21 M (fun r1 M2 => if r1 = true then (mj_tag M2 l0 = 13 ∧ mj_tag M2 (mj_r M2 l0 32) = 101 ∧ vp_in (l1 - 10) (mj_len M2 (mj_r M2 l0 32)) ∧ post (mj_i M2 (mj_r M2 l0 32) (l1 - 10 : Int32).toNatClampNeg) M2) else (vc_X12_in ((l1 : Int32).toInt64) 30 41 M2 (fun r4 M5 => if r4 = true then (mj_tag M5 l0 = 13 ∧ mj_tag M5 (mj_r M5 l0 14) = 101 ∧ vp_in (l1 - 30) (mj_len M5 (mj_r M5 l0 14)) ∧ post (mj_i M5 (mj_r M5 l0 14) (l1 - 30 : Int32).toNatClampNeg) M5) else (if l1 = (-1) then (mj_tag M5 l0 = 13 ∧ post (mj_i M5 l0 0) M5) else (if l1 = 0 then (mj_tag M5 l0 = 13 ∧ post (mj_i M5 l0 13) M5) else (if l1 = 1 then (mj_tag M5 l0 = 13 ∧ mj_tag M5 (mj_r M5 l0 17) = 101 ∧ vp_in 12 (mj_len M5 (mj_r M5 l0 17)) ∧ post (mj_i M5 (mj_r M5 l0 17) (12 : Int32).toNatClampNeg) M5) else (if l1 = 2 then (mj_tag M5 l0 = 13 ∧ post (mj_i M5 l0 20) M5) else (if l1 = 3 then (mj_tag M5 l0 = 13 ∧ post (mj_i M5 l0 30) M5) else (if l1 = 4 then (mj_tag M5 l0 = 13 ∧ post (mj_i M5 l0 35) M5) else (if l1 = 5 then (mj_tag M5 l0 = 13 ∧ post (mj_i M5 l0 38) M5) else (if l1 = 6 then (mj_tag M5 l0 = 13 ∧ post (mj_i M5 l0 53) M5) else (if l1 = 7 then (mj_tag M5 l0 = 13 ∧ post (mj_i M5 l0 42) M5) else (if l1 = 8 then (mj_tag M5 l0 = 13 ∧ post (mj_i M5 l0 43) M5) else (post ((-2)) M5))))))))))))))
set_option maxHeartbeats 4000000 in
set_option maxRecDepth 100000 in
theorem ct_X12_told {l : Launch} {base : Nat} {D : va_G} {A : ClassId × ClassId × ClassId} (l0 : Nat) (l1 : Int32) (M : mj_M) (post : Int32 → mj_M → Prop) (h : vc_X12_told l0 l1 M post) : mj_Met l base D A mj_jI yX12_told cX12_told 2 (some .int) rm_X12_told 0 0 [vR l0, vI l1] M post := by
  refine mj_entry (by decide +kernel) (Nat.le_of_ble_eq_true rfl) (fun g hC hE h1 h2 h3 h4 => ?_)
  show mj_X g 0 [(0, vR l0), (1, vI l1)] [] M 0 0
  simp only [vc_X12_told] at h
  refine mx_iload_n (j := 1) hC dX12_told_0 rfl rfl ?_
  refine mx_i2l hC dX12_told_1 ?_
  refine mx_ldc2 (v := 10) hC dX12_told_2 tw1752 ?_
  refine mx_ldc2 (v := 21) hC dX12_told_5 tw1828 ?_
  refine mx_callS (inj := mj_jB) (As := [vL ((l1 : Int32).toInt64), vL 10, vL 21]) (st := []) hC (ct_X12_in ((l1 : Int32).toInt64) 10 21 M _ h) ty_X12_in tw1379 rfl (Nat.le_of_ble_eq_true rfl) ⟨rfl, rfl, ⟨by decide, by decide⟩, by decide, by decide⟩ dX12_told_8 (fun r1 M2 h => ?_)
  show mj_X g 11 [(0, vR l0), (1, vI l1)] [vI (mj_b r1)] M2 0 0
  refine mx_ifeqB (tgt := 24) hC dX12_told_11 (by decide) (fun hc3 => ?_) (fun hc3 => ?_)
  · replace h := mj_nn hc3 h
    refine mx_iload_n (j := 1) hC dX12_told_24 rfl rfl ?_
    refine mx_i2l hC dX12_told_25 ?_
    refine mx_ldc2 (v := 30) hC dX12_told_26 tw1829 ?_
    refine mx_ldc2 (v := 41) hC dX12_told_29 tw1830 ?_
    refine mx_callS (inj := mj_jB) (As := [vL ((l1 : Int32).toInt64), vL 30, vL 41]) (st := []) hC (ct_X12_in ((l1 : Int32).toInt64) 30 41 M2 _ h) ty_X12_in tw1379 rfl (Nat.le_of_ble_eq_true rfl) ⟨rfl, rfl, ⟨by decide, by decide⟩, by decide, by decide⟩ dX12_told_32 (fun r4 M5 h => ?_)
    show mj_X g 35 [(0, vR l0), (1, vI l1)] [vI (mj_b r4)] M5 0 0
    refine mx_ifeqB (tgt := 48) hC dX12_told_35 (by decide) (fun hc6 => ?_) (fun hc6 => ?_)
    · replace h := mj_nn hc6 h
      refine mx_iload_n (j := 1) hC dX12_told_48 rfl rfl ?_
      by_cases hc7 : l1 = (-1)
      · replace h := mj_yy hc7 h
        refine mx_tsin (v := (-1)) (off := 55) (tgt := 104) hC dX12_told_49 hc7 (by decide) (by decide) (by decide) (by decide) ?_
        refine mx_aload_n (j := 0) hC dX12_told_104 rfl rfl ?_
        obtain ⟨ht8, h⟩ := h
        refine mx_get (v := vI (mj_i M5 l0 0)) hC tf_X12_151 ht8 rfl dX12_told_105 ?_
        exact mx_iret hC hE rfl dX12_told_108 h
      replace h := mj_nn hc7 h
      by_cases hc9 : l1 = 0
      · replace h := mj_yy hc9 h
        refine mx_tsin (v := 0) (off := 60) (tgt := 109) hC dX12_told_49 hc9 (by decide) (by decide) (by decide) (by decide) ?_
        refine mx_aload_n (j := 0) hC dX12_told_109 rfl rfl ?_
        obtain ⟨ht10, h⟩ := h
        refine mx_get (v := vI (mj_i M5 l0 13)) hC tf_X12_130 ht10 rfl dX12_told_110 ?_
        exact mx_iret hC hE rfl dX12_told_113 h
      replace h := mj_nn hc9 h
      by_cases hc11 : l1 = 1
      · replace h := mj_yy hc11 h
        refine mx_tsin (v := 1) (off := 65) (tgt := 114) hC dX12_told_49 hc11 (by decide) (by decide) (by decide) (by decide) ?_
        refine mx_aload_n (j := 0) hC dX12_told_114 rfl rfl ?_
        obtain ⟨ht12, h⟩ := h
        refine mx_get (v := vR (mj_r M5 l0 17)) hC tf_X12_55 ht12 rfl dX12_told_115 ?_
        refine mx_bipush (v := 12) hC dX12_told_118 (by decide) ?_
        obtain ⟨ht13, h⟩ := h
        obtain ⟨hi14, h⟩ := h
        refine mx_iaload hC ht13 hi14 dX12_told_120 ?_
        exact mx_iret hC hE rfl dX12_told_121 h
      replace h := mj_nn hc11 h
      by_cases hc15 : l1 = 2
      · replace h := mj_yy hc15 h
        refine mx_tsin (v := 2) (off := 73) (tgt := 122) hC dX12_told_49 hc15 (by decide) (by decide) (by decide) (by decide) ?_
        refine mx_aload_n (j := 0) hC dX12_told_122 rfl rfl ?_
        obtain ⟨ht16, h⟩ := h
        refine mx_get (v := vI (mj_i M5 l0 20)) hC tf_X12_258 ht16 rfl dX12_told_123 ?_
        exact mx_iret hC hE rfl dX12_told_126 h
      replace h := mj_nn hc15 h
      by_cases hc17 : l1 = 3
      · replace h := mj_yy hc17 h
        refine mx_tsin (v := 3) (off := 78) (tgt := 127) hC dX12_told_49 hc17 (by decide) (by decide) (by decide) (by decide) ?_
        refine mx_aload_n (j := 0) hC dX12_told_127 rfl rfl ?_
        obtain ⟨ht18, h⟩ := h
        refine mx_get (v := vI (mj_i M5 l0 30)) hC tf_X12_290 ht18 rfl dX12_told_128 ?_
        exact mx_iret hC hE rfl dX12_told_131 h
      replace h := mj_nn hc17 h
      by_cases hc19 : l1 = 4
      · replace h := mj_yy hc19 h
        refine mx_tsin (v := 4) (off := 83) (tgt := 132) hC dX12_told_49 hc19 (by decide) (by decide) (by decide) (by decide) ?_
        refine mx_aload_n (j := 0) hC dX12_told_132 rfl rfl ?_
        obtain ⟨ht20, h⟩ := h
        refine mx_get (v := vI (mj_i M5 l0 35)) hC tf_X12_334 ht20 rfl dX12_told_133 ?_
        exact mx_iret hC hE rfl dX12_told_136 h
      replace h := mj_nn hc19 h
      by_cases hc21 : l1 = 5
      · replace h := mj_yy hc21 h
        refine mx_tsin (v := 5) (off := 88) (tgt := 137) hC dX12_told_49 hc21 (by decide) (by decide) (by decide) (by decide) ?_
        refine mx_aload_n (j := 0) hC dX12_told_137 rfl rfl ?_
        obtain ⟨ht22, h⟩ := h
        refine mx_get (v := vI (mj_i M5 l0 38)) hC tf_X12_351 ht22 rfl dX12_told_138 ?_
        exact mx_iret hC hE rfl dX12_told_141 h
      replace h := mj_nn hc21 h
      by_cases hc23 : l1 = 6
      · replace h := mj_yy hc23 h
        refine mx_tsin (v := 6) (off := 93) (tgt := 142) hC dX12_told_49 hc23 (by decide) (by decide) (by decide) (by decide) ?_
        refine mx_aload_n (j := 0) hC dX12_told_142 rfl rfl ?_
        obtain ⟨ht24, h⟩ := h
        refine mx_get (v := vI (mj_i M5 l0 53)) hC tf_X12_418 ht24 rfl dX12_told_143 ?_
        exact mx_iret hC hE rfl dX12_told_146 h
      replace h := mj_nn hc23 h
      by_cases hc25 : l1 = 7
      · replace h := mj_yy hc25 h
        refine mx_tsin (v := 7) (off := 98) (tgt := 147) hC dX12_told_49 hc25 (by decide) (by decide) (by decide) (by decide) ?_
        refine mx_aload_n (j := 0) hC dX12_told_147 rfl rfl ?_
        obtain ⟨ht26, h⟩ := h
        refine mx_get (v := vI (mj_i M5 l0 42)) hC tf_X12_107 ht26 rfl dX12_told_148 ?_
        exact mx_iret hC hE rfl dX12_told_151 h
      replace h := mj_nn hc25 h
      by_cases hc27 : l1 = 8
      · replace h := mj_yy hc27 h
        refine mx_tsin (v := 8) (off := 103) (tgt := 152) hC dX12_told_49 hc27 (by decide) (by decide) (by decide) (by decide) ?_
        refine mx_aload_n (j := 0) hC dX12_told_152 rfl rfl ?_
        obtain ⟨ht28, h⟩ := h
        refine mx_get (v := vI (mj_i M5 l0 43)) hC tf_X12_111 ht28 rfl dX12_told_153 ?_
        exact mx_iret hC hE rfl dX12_told_156 h
      replace h := mj_nn hc27 h
      refine mx_tsout (vs := [(-1), 0, 1, 2, 3, 4, 5, 6, 7, 8]) (tgt := 157) hC dX12_told_49 (by decide) (by decide) (List.forall_mem_cons.mpr ⟨hc7, (List.forall_mem_cons.mpr ⟨hc9, (List.forall_mem_cons.mpr ⟨hc11, (List.forall_mem_cons.mpr ⟨hc15, (List.forall_mem_cons.mpr ⟨hc17, (List.forall_mem_cons.mpr ⟨hc19, (List.forall_mem_cons.mpr ⟨hc21, (List.forall_mem_cons.mpr ⟨hc23, (List.forall_mem_cons.mpr ⟨hc25, (List.forall_mem_cons.mpr ⟨hc27, (fun _ q => absurd q List.not_mem_nil)⟩)⟩)⟩)⟩)⟩)⟩)⟩)⟩)⟩)⟩) ?_
      refine mx_bipush (v := (-2)) hC dX12_told_157 (by decide) ?_
      exact mx_iret hC hE rfl dX12_told_159 h
    · replace h := mj_yy hc6 h
      refine mx_aload_n (j := 0) hC dX12_told_38 rfl rfl ?_
      obtain ⟨ht29, h⟩ := h
      refine mx_get (v := vR (mj_r M5 l0 14)) hC tf_X12_46 ht29 rfl dX12_told_39 ?_
      refine mx_iload_n (j := 1) hC dX12_told_42 rfl rfl ?_
      refine mx_bipush (v := 30) hC dX12_told_43 (by decide) ?_
      refine mx_isub hC dX12_told_45 ?_
      obtain ⟨ht30, h⟩ := h
      obtain ⟨hi31, h⟩ := h
      refine mx_iaload hC ht30 hi31 dX12_told_46 ?_
      exact mx_iret hC hE rfl dX12_told_47 h
  · replace h := mj_yy hc3 h
    refine mx_aload_n (j := 0) hC dX12_told_14 rfl rfl ?_
    obtain ⟨ht32, h⟩ := h
    refine mx_get (v := vR (mj_r M2 l0 32)) hC tf_X12_92 ht32 rfl dX12_told_15 ?_
    refine mx_iload_n (j := 1) hC dX12_told_18 rfl rfl ?_
    refine mx_bipush (v := 10) hC dX12_told_19 (by decide) ?_
    refine mx_isub hC dX12_told_21 ?_
    obtain ⟨ht33, h⟩ := h
    obtain ⟨hi34, h⟩ := h
    refine mx_iaload hC ht33 hi34 dX12_told_22 ?_
    exact mx_iret hC hE rfl dX12_told_23 h

/-! methods 10. By program (wip/gen) out of the bytecode: vc_KEY: what must hold of a call; ct_KEY: then the machine does it. -/
theorem tw1130 : (Jvm.Cond.methodLink "LeaseLand" (388 : Nat) ({ cls := "java/lang/Integer", name := "bitCount", desc := "(I)I" } : Jvm.MethodName)) ∈ mj_tbl := mj_w 1183 (by decide +kernel) (by decide +kernel)
def rm_X11_mayBuy : Room := { frames := 1, cells := 0, slots := 0, locals := 20 }
theorem dX11_mayBuy_0 : decode cX11_mayBuy 0 = .ok (.iconst 0, 1) := by decide +kernel
theorem dX11_mayBuy_1 : decode cX11_mayBuy 1 = .ok (.istore_n 3, 1) := by decide +kernel
theorem dX11_mayBuy_2 : decode cX11_mayBuy 2 = .ok (.iconst 0, 1) := by decide +kernel
theorem dX11_mayBuy_3 : decode cX11_mayBuy 3 = .ok (.istore 4, 2) := by decide +kernel
theorem dX11_mayBuy_5 : decode cX11_mayBuy 5 = .ok (.iconst 0, 1) := by decide +kernel
theorem dX11_mayBuy_6 : decode cX11_mayBuy 6 = .ok (.istore 5, 2) := by decide +kernel
theorem dX11_mayBuy_8 : decode cX11_mayBuy 8 = .ok (.iload 5, 2) := by decide +kernel
theorem dX11_mayBuy_10 : decode cX11_mayBuy 10 = .ok (.bipush 10, 2) := by decide +kernel
theorem dX11_mayBuy_12 : decode cX11_mayBuy 12 = .ok (.if_icmp .ge 45, 3) := by decide +kernel
theorem dX11_mayBuy_15 : decode cX11_mayBuy 15 = .ok (.iload_n 3, 1) := by decide +kernel
theorem dX11_mayBuy_16 : decode cX11_mayBuy 16 = .ok (.aload_n 0, 1) := by decide +kernel
theorem dX11_mayBuy_17 : decode cX11_mayBuy 17 = .ok (.getfield 58, 3) := by decide +kernel
theorem dX11_mayBuy_20 : decode cX11_mayBuy 20 = .ok (.iload 5, 2) := by decide +kernel
theorem dX11_mayBuy_22 : decode cX11_mayBuy 22 = .ok (.iaload, 1) := by decide +kernel
theorem dX11_mayBuy_23 : decode cX11_mayBuy 23 = .ok (.iadd, 1) := by decide +kernel
theorem dX11_mayBuy_24 : decode cX11_mayBuy 24 = .ok (.istore_n 3, 1) := by decide +kernel
theorem dX11_mayBuy_25 : decode cX11_mayBuy 25 = .ok (.iload 4, 2) := by decide +kernel
theorem dX11_mayBuy_27 : decode cX11_mayBuy 27 = .ok (.iload_n 2, 1) := by decide +kernel
theorem dX11_mayBuy_28 : decode cX11_mayBuy 28 = .ok (.iload 5, 2) := by decide +kernel
theorem dX11_mayBuy_30 : decode cX11_mayBuy 30 = .ok (.ishr, 1) := by decide +kernel
theorem dX11_mayBuy_31 : decode cX11_mayBuy 31 = .ok (.iconst 1, 1) := by decide +kernel
theorem dX11_mayBuy_32 : decode cX11_mayBuy 32 = .ok (.iand, 1) := by decide +kernel
theorem dX11_mayBuy_33 : decode cX11_mayBuy 33 = .ok (.iconst 1, 1) := by decide +kernel
theorem dX11_mayBuy_34 : decode cX11_mayBuy 34 = .ok (.if_icmp .ne 13, 3) := by decide +kernel
theorem dX11_mayBuy_37 : decode cX11_mayBuy 37 = .ok (.aload_n 0, 1) := by decide +kernel
theorem dX11_mayBuy_38 : decode cX11_mayBuy 38 = .ok (.getfield 58, 3) := by decide +kernel
theorem dX11_mayBuy_41 : decode cX11_mayBuy 41 = .ok (.iload 5, 2) := by decide +kernel
theorem dX11_mayBuy_43 : decode cX11_mayBuy 43 = .ok (.iaload, 1) := by decide +kernel
theorem dX11_mayBuy_44 : decode cX11_mayBuy 44 = .ok (.goto 4, 3) := by decide +kernel
theorem dX11_mayBuy_47 : decode cX11_mayBuy 47 = .ok (.iconst 0, 1) := by decide +kernel
theorem dX11_mayBuy_48 : decode cX11_mayBuy 48 = .ok (.iadd, 1) := by decide +kernel
theorem dX11_mayBuy_49 : decode cX11_mayBuy 49 = .ok (.istore 4, 2) := by decide +kernel
theorem dX11_mayBuy_51 : decode cX11_mayBuy 51 = .ok (.iinc 5 1, 3) := by decide +kernel
theorem dX11_mayBuy_54 : decode cX11_mayBuy 54 = .ok (.goto (-46), 3) := by decide +kernel
theorem dX11_mayBuy_57 : decode cX11_mayBuy 57 = .ok (.aload_n 1, 1) := by decide +kernel
theorem dX11_mayBuy_58 : decode cX11_mayBuy 58 = .ok (.getfield 147, 3) := by decide +kernel
theorem dX11_mayBuy_61 : decode cX11_mayBuy 61 = .ok (.invokestatic 388, 3) := by decide +kernel
theorem dX11_mayBuy_64 : decode cX11_mayBuy 64 = .ok (.istore 5, 2) := by decide +kernel
theorem dX11_mayBuy_66 : decode cX11_mayBuy 66 = .ok (.iconst 3, 1) := by decide +kernel
theorem dX11_mayBuy_67 : decode cX11_mayBuy 67 = .ok (.iload_n 3, 1) := by decide +kernel
theorem dX11_mayBuy_68 : decode cX11_mayBuy 68 = .ok (.imul, 1) := by decide +kernel
theorem dX11_mayBuy_69 : decode cX11_mayBuy 69 = .ok (.iconst 2, 1) := by decide +kernel
theorem dX11_mayBuy_70 : decode cX11_mayBuy 70 = .ok (.iload 5, 2) := by decide +kernel
theorem dX11_mayBuy_72 : decode cX11_mayBuy 72 = .ok (.imul, 1) := by decide +kernel
theorem dX11_mayBuy_73 : decode cX11_mayBuy 73 = .ok (.if_icmp .lt 16, 3) := by decide +kernel
theorem dX11_mayBuy_76 : decode cX11_mayBuy 76 = .ok (.iconst 2, 1) := by decide +kernel
theorem dX11_mayBuy_77 : decode cX11_mayBuy 77 = .ok (.iload 4, 2) := by decide +kernel
theorem dX11_mayBuy_79 : decode cX11_mayBuy 79 = .ok (.imul, 1) := by decide +kernel
theorem dX11_mayBuy_80 : decode cX11_mayBuy 80 = .ok (.iload 5, 2) := by decide +kernel
theorem dX11_mayBuy_82 : decode cX11_mayBuy 82 = .ok (.if_icmp .lt 7, 3) := by decide +kernel
theorem dX11_mayBuy_85 : decode cX11_mayBuy 85 = .ok (.iconst 1, 1) := by decide +kernel
theorem dX11_mayBuy_86 : decode cX11_mayBuy 86 = .ok (.goto 4, 3) := by decide +kernel
theorem dX11_mayBuy_89 : decode cX11_mayBuy 89 = .ok (.iconst 0, 1) := by decide +kernel
theorem dX11_mayBuy_90 : decode cX11_mayBuy 90 = .ok (.ireturn, 1) := by decide +kernel
def vb_X11_mayBuy_8 (post : Bool → mj_M → Prop) : Nat → Nat → Nat → Int32 → Int32 → Int32 → Int32 → mj_M → Prop
  | 0 => fun _ _ _ _ _ _ _ => False
  | f + 1 => fun l0 l1 l2 l3 l4 l5 M => if 10 ≤ l5 then (mj_tag M l1 = 4 ∧ vc_J6_bitCount_0f7a4 (mj_i M l1 3) M (fun r3 M4 => if (3 * l3) < (2 * r3) then (post false M4) else (if (2 * l4) < r3 then (post false M4) else (post true M4)))) else (mj_tag M l0 = 12 ∧ mj_tag M (mj_r M l0 7) = 101 ∧ vp_in l5 (mj_len M (mj_r M l0 7)) ∧ if ((l2 >>> (l5 &&& 31)) &&& 1) = 1 then (vb_X11_mayBuy_8 post f l0 l1 l2 (l3 + (mj_i M (mj_r M l0 7) (l5 : Int32).toNatClampNeg)) (l4 + (mj_i M (mj_r M l0 7) (l5 : Int32).toNatClampNeg)) (l5 + 1) M) else (vb_X11_mayBuy_8 post f l0 l1 l2 (l3 + (mj_i M (mj_r M l0 7) (l5 : Int32).toNatClampNeg)) (l4 + 0) (l5 + 1) M))
def vc_X11_mayBuy (l0 : Nat) (l1 : Nat) (l2 : Int32) (M : mj_M) (post : Bool → mj_M → Prop) : Prop := ∃ fe, vb_X11_mayBuy_8 post fe l0 l1 l2 0 0 0 M
set_option maxHeartbeats 4000000 in
set_option maxRecDepth 100000 in
theorem xb_X11_mayBuy_8 {g : mj_G} {post : Bool → mj_M → Prop} (hC : mj_C g yX11_mayBuy cX11_mayBuy 6 (some .boolean) rm_X11_mayBuy) (hE : mj_E g mj_jB post 0 0) : ∀ (f : Nat) (l0 : Nat) (l1 : Nat) (l2 : Int32) (l3 : Int32) (l4 : Int32) (l5 : Int32) (M : mj_M), vb_X11_mayBuy_8 post f l0 l1 l2 l3 l4 l5 M → mj_X g 8 [(0, vR l0), (1, vR l1), (2, vI l2), (3, vI l3), (4, vI l4), (5, vI l5)] [] M 0 0 := by
  intro f
  induction f with
  | zero => exact fun _ _ _ _ _ _ _ h => absurd h (fun z => z)
  | succ f ih =>
    intro l0 l1 l2 l3 l4 l5 M h
    simp only [vb_X11_mayBuy_8] at h
    refine mx_iload (j := 5) hC dX11_mayBuy_8 rfl ?_
    refine mx_bipush (v := 10) hC dX11_mayBuy_10 (by decide) ?_
    refine mx_icmpge (tgt := 57) hC dX11_mayBuy_12 (by decide) (fun hc1 => ?_) (fun hc1 => ?_)
    · replace h := mj_yy hc1 h
      refine mx_aload_n (j := 1) hC dX11_mayBuy_57 rfl rfl ?_
      obtain ⟨ht2, h⟩ := h
      refine mx_get (v := vI (mj_i M l1 3)) hC tf_X11_147 ht2 rfl dX11_mayBuy_58 ?_
      refine mx_callS (inj := mj_jI) (As := [vI (mj_i M l1 3)]) (st := []) hC (ct_J6_bitCount_0f7a4 (mj_i M l1 3) M _ h) ty_J6_bitCount_0f7a4 tw1130 rfl (Nat.le_of_ble_eq_true rfl) ⟨rfl, rfl, ⟨by decide, by decide⟩, by decide, by decide⟩ dX11_mayBuy_61 (fun r3 M4 h => ?_)
      show mj_X g 64 [(0, vR l0), (1, vR l1), (2, vI l2), (3, vI l3), (4, vI l4), (5, vI l5)] [vI r3] M4 0 0
      refine mx_istore (L' := [(5, vI r3), (0, vR l0), (1, vR l1), (2, vI l2), (3, vI l3), (4, vI l4)]) hC dX11_mayBuy_64 (by decide) rfl ?_
      refine mx_iconst (v := 3) hC dX11_mayBuy_66 (by decide) ?_
      refine mx_iload_n (j := 4) hC dX11_mayBuy_67 rfl rfl ?_
      refine mx_imul hC dX11_mayBuy_68 ?_
      refine mx_iconst (v := 2) hC dX11_mayBuy_69 (by decide) ?_
      refine mx_iload (j := 0) hC dX11_mayBuy_70 rfl ?_
      refine mx_imul hC dX11_mayBuy_72 ?_
      refine mx_icmplt (tgt := 89) hC dX11_mayBuy_73 (by decide) (fun hc5 => ?_) (fun hc5 => ?_)
      · replace h := mj_yy hc5 h
        refine mx_iconst (v := 0) hC dX11_mayBuy_89 (by decide) ?_
        exact mx_zret (b := false) hC hE rfl dX11_mayBuy_90 h
      · replace h := mj_nn hc5 h
        refine mx_iconst (v := 2) hC dX11_mayBuy_76 (by decide) ?_
        refine mx_iload (j := 5) hC dX11_mayBuy_77 rfl ?_
        refine mx_imul hC dX11_mayBuy_79 ?_
        refine mx_iload (j := 0) hC dX11_mayBuy_80 rfl ?_
        refine mx_icmplt (tgt := 89) hC dX11_mayBuy_82 (by decide) (fun hc6 => ?_) (fun hc6 => ?_)
        · replace h := mj_yy hc6 h
          refine mx_iconst (v := 0) hC dX11_mayBuy_89 (by decide) ?_
          exact mx_zret (b := false) hC hE rfl dX11_mayBuy_90 h
        · replace h := mj_nn hc6 h
          refine mx_iconst (v := 1) hC dX11_mayBuy_85 (by decide) ?_
          refine mx_goto (tgt := 90) hC dX11_mayBuy_86 (by decide) ?_
          exact mx_zret (b := true) hC hE rfl dX11_mayBuy_90 h
    · replace h := mj_nn hc1 h
      refine mx_iload_n (j := 3) hC dX11_mayBuy_15 rfl rfl ?_
      refine mx_aload_n (j := 0) hC dX11_mayBuy_16 rfl rfl ?_
      obtain ⟨ht7, h⟩ := h
      refine mx_get (v := vR (mj_r M l0 7)) hC tf_X11_58 ht7 rfl dX11_mayBuy_17 ?_
      refine mx_iload (j := 5) hC dX11_mayBuy_20 rfl ?_
      obtain ⟨ht8, h⟩ := h
      obtain ⟨hi9, h⟩ := h
      refine mx_iaload hC ht8 hi9 dX11_mayBuy_22 ?_
      refine mx_iadd hC dX11_mayBuy_23 ?_
      refine mx_istore_n (L' := [(3, vI (l3 + (mj_i M (mj_r M l0 7) (l5 : Int32).toNatClampNeg))), (0, vR l0), (1, vR l1), (2, vI l2), (4, vI l4), (5, vI l5)]) hC dX11_mayBuy_24 rfl (by decide) rfl ?_
      refine mx_iload (j := 4) hC dX11_mayBuy_25 rfl ?_
      refine mx_iload_n (j := 3) hC dX11_mayBuy_27 rfl rfl ?_
      refine mx_iload (j := 5) hC dX11_mayBuy_28 rfl ?_
      refine mx_ishr hC dX11_mayBuy_30 ?_
      refine mx_iconst (v := 1) hC dX11_mayBuy_31 (by decide) ?_
      refine mx_iand hC dX11_mayBuy_32 ?_
      refine mx_iconst (v := 1) hC dX11_mayBuy_33 (by decide) ?_
      refine mx_icmpne (tgt := 47) hC dX11_mayBuy_34 (by decide) (fun hc10 => ?_) (fun hc10 => ?_)
      · replace h := mj_nn hc10 h
        refine mx_iconst (v := 0) hC dX11_mayBuy_47 (by decide) ?_
        refine mx_iadd hC dX11_mayBuy_48 ?_
        refine mx_istore (L' := [(4, vI (l4 + 0)), (3, vI (l3 + (mj_i M (mj_r M l0 7) (l5 : Int32).toNatClampNeg))), (0, vR l0), (1, vR l1), (2, vI l2), (5, vI l5)]) hC dX11_mayBuy_49 (by decide) rfl ?_
        refine mx_iinc (j := 5) (v := l5 + 1) (L' := [(5, vI (l5 + 1)), (4, vI (l4 + 0)), (3, vI (l3 + (mj_i M (mj_r M l0 7) (l5 : Int32).toNatClampNeg))), (0, vR l0), (1, vR l1), (2, vI l2)]) hC dX11_mayBuy_51 rfl rfl (by decide) rfl ?_
        refine mx_goto (tgt := 8) hC dX11_mayBuy_54 (by decide) ?_
        refine mx_sub (L' := [(0, vR l0), (1, vR l1), (2, vI l2), (3, vI (l3 + (mj_i M (mj_r M l0 7) (l5 : Int32).toNatClampNeg))), (4, vI (l4 + 0)), (5, vI (l5 + 1))]) [3, 4, 5, 2, 1, 0] rfl ?_
        exact show mj_X g 8 [(0, vR l0), (1, vR l1), (2, vI l2), (3, vI (l3 + (mj_i M (mj_r M l0 7) (l5 : Int32).toNatClampNeg))), (4, vI (l4 + 0)), (5, vI (l5 + 1))] [] M 0 0 from (ih l0 l1 l2 (l3 + (mj_i M (mj_r M l0 7) (l5 : Int32).toNatClampNeg)) (l4 + 0) (l5 + 1) M h)
      · replace h := mj_yy hc10 h
        refine mx_aload_n (j := 1) hC dX11_mayBuy_37 rfl rfl ?_
        refine mx_get (v := vR (mj_r M l0 7)) hC tf_X11_58 ht7 rfl dX11_mayBuy_38 ?_
        refine mx_iload (j := 5) hC dX11_mayBuy_41 rfl ?_
        refine mx_iaload hC ht8 hi9 dX11_mayBuy_43 ?_
        refine mx_goto (tgt := 48) hC dX11_mayBuy_44 (by decide) ?_
        refine mx_iadd hC dX11_mayBuy_48 ?_
        refine mx_istore (L' := [(4, vI (l4 + (mj_i M (mj_r M l0 7) (l5 : Int32).toNatClampNeg))), (3, vI (l3 + (mj_i M (mj_r M l0 7) (l5 : Int32).toNatClampNeg))), (0, vR l0), (1, vR l1), (2, vI l2), (5, vI l5)]) hC dX11_mayBuy_49 (by decide) rfl ?_
        refine mx_iinc (j := 5) (v := l5 + 1) (L' := [(5, vI (l5 + 1)), (4, vI (l4 + (mj_i M (mj_r M l0 7) (l5 : Int32).toNatClampNeg))), (3, vI (l3 + (mj_i M (mj_r M l0 7) (l5 : Int32).toNatClampNeg))), (0, vR l0), (1, vR l1), (2, vI l2)]) hC dX11_mayBuy_51 rfl rfl (by decide) rfl ?_
        refine mx_goto (tgt := 8) hC dX11_mayBuy_54 (by decide) ?_
        refine mx_sub (L' := [(0, vR l0), (1, vR l1), (2, vI l2), (3, vI (l3 + (mj_i M (mj_r M l0 7) (l5 : Int32).toNatClampNeg))), (4, vI (l4 + (mj_i M (mj_r M l0 7) (l5 : Int32).toNatClampNeg))), (5, vI (l5 + 1))]) [3, 4, 5, 2, 1, 0] rfl ?_
        exact show mj_X g 8 [(0, vR l0), (1, vR l1), (2, vI l2), (3, vI (l3 + (mj_i M (mj_r M l0 7) (l5 : Int32).toNatClampNeg))), (4, vI (l4 + (mj_i M (mj_r M l0 7) (l5 : Int32).toNatClampNeg))), (5, vI (l5 + 1))] [] M 0 0 from (ih l0 l1 l2 (l3 + (mj_i M (mj_r M l0 7) (l5 : Int32).toNatClampNeg)) (l4 + (mj_i M (mj_r M l0 7) (l5 : Int32).toNatClampNeg)) (l5 + 1) M h)
set_option maxHeartbeats 4000000 in
set_option maxRecDepth 100000 in
theorem ct_X11_mayBuy {l : Launch} {base : Nat} {D : va_G} {A : ClassId × ClassId × ClassId} (l0 : Nat) (l1 : Nat) (l2 : Int32) (M : mj_M) (post : Bool → mj_M → Prop) (h : vc_X11_mayBuy l0 l1 l2 M post) : mj_Met l base D A mj_jB yX11_mayBuy cX11_mayBuy 6 (some .boolean) rm_X11_mayBuy 0 0 [vR l0, vR l1, vI l2] M post := by
  refine mj_entry (by decide +kernel) (Nat.le_of_ble_eq_true rfl) (fun g hC hE h1 h2 h3 h4 => ?_)
  show mj_X g 0 [(0, vR l0), (1, vR l1), (2, vI l2)] [] M 0 0
  simp only [vc_X11_mayBuy] at h
  refine mx_iconst (v := 0) hC dX11_mayBuy_0 (by decide) ?_
  refine mx_istore_n (L' := [(3, vI 0), (0, vR l0), (1, vR l1), (2, vI l2)]) hC dX11_mayBuy_1 rfl (by decide) rfl ?_
  refine mx_iconst (v := 0) hC dX11_mayBuy_2 (by decide) ?_
  refine mx_istore (L' := [(4, vI 0), (3, vI 0), (0, vR l0), (1, vR l1), (2, vI l2)]) hC dX11_mayBuy_3 (by decide) rfl ?_
  refine mx_iconst (v := 0) hC dX11_mayBuy_5 (by decide) ?_
  refine mx_istore (L' := [(5, vI 0), (4, vI 0), (3, vI 0), (0, vR l0), (1, vR l1), (2, vI l2)]) hC dX11_mayBuy_6 (by decide) rfl ?_
  refine mx_sub (L' := [(0, vR l0), (1, vR l1), (2, vI l2), (3, vI 0), (4, vI 0), (5, vI 0)]) [3, 4, 5, 2, 1, 0] rfl ?_
  obtain ⟨fe, h⟩ := h
  exact show mj_X g 8 [(0, vR l0), (1, vR l1), (2, vI l2), (3, vI 0), (4, vI 0), (5, vI 0)] [] M 0 0 from (xb_X11_mayBuy_8 hC hE fe l0 l1 l2 0 0 0 M h)
theorem tw1108 : (Jvm.Cond.methodLink "LeaseLand" (376 : Nat) ({ cls := "LeaseLand$Land", name := "findWhole", desc := "(I)LLeaseLand$Holding;" } : Jvm.MethodName)) ∈ mj_tbl := mj_w 1161 (by decide +kernel) (by decide +kernel)
theorem tw1112 : (Jvm.Cond.methodLink "LeaseLand" (379 : Nat) ({ cls := "LeaseLand", name := "isPersons", desc := "(I)Z" } : Jvm.MethodName)) ∈ mj_tbl := mj_w 1165 (by decide +kernel) (by decide +kernel)
theorem tw1115 : (Jvm.Cond.methodLink "LeaseLand" (382 : Nat) ({ cls := "LeaseLand", name := "countJoined", desc := "(LLeaseLand$Holding;)V" } : Jvm.MethodName)) ∈ mj_tbl := mj_w 1168 (by decide +kernel) (by decide +kernel)
theorem tw1126 : (Jvm.Cond.methodLink "LeaseLand" (385 : Nat) ({ cls := "LeaseLand", name := "mayBuy", desc := "(LLeaseLand$Holding;I)Z" } : Jvm.MethodName)) ∈ mj_tbl := mj_w 1179 (by decide +kernel) (by decide +kernel)
theorem tw1118 : (Jvm.Cond.code ({ cls := "LeaseLand", name := "countJoined", desc := "(LLeaseLand$Holding;)V" } : Jvm.MethodName) prog_1_method_48_code (6 : Nat) (Option.none : Option Jvm.ClassFile.FieldType)) ∈ mj_tbl := mj_w 1171 (by decide +kernel) (by decide +kernel)
theorem tw1117 : (Jvm.Cond.instanceMethod ({ cls := "LeaseLand", name := "countJoined", desc := "(LLeaseLand$Holding;)V" } : Jvm.MethodName)) ∈ mj_tbl := mj_w 1170 (by decide +kernel) (by decide +kernel)
theorem ty_X11_countJoined : mj_YV 11 yX11_countJoined cX11_countJoined 6 (none) 1 := ⟨⟨tw1118, tw1, by decide +kernel, by decide +kernel, by decide +kernel⟩, tw1117, mj_w 4 (by decide +kernel) (by decide +kernel), _, rfl, rfl⟩
theorem tw1114 : (Jvm.Cond.code ({ cls := "LeaseLand", name := "isPersons", desc := "(I)Z" } : Jvm.MethodName) prog_1_method_63_code (1 : Nat) (Option.some Jvm.ClassFile.FieldType.boolean)) ∈ mj_tbl := mj_w 1167 (by decide +kernel) (by decide +kernel)
theorem tw1113 : (Jvm.Cond.static ({ cls := "LeaseLand", name := "isPersons", desc := "(I)Z" } : Jvm.MethodName)) ∈ mj_tbl := mj_w 1166 (by decide +kernel) (by decide +kernel)
theorem ty_X11_isPersons : mj_YS yX11_isPersons cX11_isPersons 1 (some .boolean) 1 := ⟨⟨tw1114, tw1, by decide +kernel, by decide +kernel, by decide +kernel⟩, tw1113⟩
theorem tw1129 : (Jvm.Cond.code ({ cls := "LeaseLand", name := "mayBuy", desc := "(LLeaseLand$Holding;I)Z" } : Jvm.MethodName) prog_1_method_49_code (6 : Nat) (Option.some Jvm.ClassFile.FieldType.boolean)) ∈ mj_tbl := mj_w 1182 (by decide +kernel) (by decide +kernel)
theorem tw1128 : (Jvm.Cond.instanceMethod ({ cls := "LeaseLand", name := "mayBuy", desc := "(LLeaseLand$Holding;I)Z" } : Jvm.MethodName)) ∈ mj_tbl := mj_w 1181 (by decide +kernel) (by decide +kernel)
theorem ty_X11_mayBuy : mj_YV 11 yX11_mayBuy cX11_mayBuy 6 (some .boolean) 2 := ⟨⟨tw1129, tw1, by decide +kernel, by decide +kernel, by decide +kernel⟩, tw1128, mj_w 5 (by decide +kernel) (by decide +kernel), _, rfl, rfl⟩
theorem tw1111 : (Jvm.Cond.code ({ cls := "LeaseLand$Land", name := "findWhole", desc := "(I)LLeaseLand$Holding;" } : Jvm.MethodName) prog_6_method_6_code (3 : Nat) (Option.some (Jvm.ClassFile.FieldType.object "LeaseLand$Holding"))) ∈ mj_tbl := mj_w 1164 (by decide +kernel) (by decide +kernel)
theorem tw1109 : (Jvm.Cond.instanceMethod ({ cls := "LeaseLand$Land", name := "findWhole", desc := "(I)LLeaseLand$Holding;" } : Jvm.MethodName)) ∈ mj_tbl := mj_w 1162 (by decide +kernel) (by decide +kernel)
theorem tw1110 : (Jvm.Cond.selects "LeaseLand$Land" ({ cls := "LeaseLand$Land", name := "findWhole", desc := "(I)LLeaseLand$Holding;" } : Jvm.MethodName) ({ cls := "LeaseLand$Land", name := "findWhole", desc := "(I)LLeaseLand$Holding;" } : Jvm.MethodName)) ∈ mj_tbl := mj_w 1163 (by decide +kernel) (by decide +kernel)
theorem ty_X4_findWhole : mj_YV 4 yX4_findWhole cX4_findWhole 3 (some (.object "LeaseLand$Holding")) 1 := ⟨⟨tw1111, tw2, by decide +kernel, by decide +kernel, by decide +kernel⟩, tw1109, tw1110, _, rfl, rfl⟩
def rm_X11_may : Room := { frames := 11, cells := 0, slots := 0, locals := 322 }
theorem dX11_may_0 : decode cX11_may 0 = .ok (.aload_n 0, 1) := by decide +kernel
theorem dX11_may_1 : decode cX11_may 1 = .ok (.getfield 10, 3) := by decide +kernel
theorem dX11_may_4 : decode cX11_may 4 = .ok (.iload_n 1, 1) := by decide +kernel
theorem dX11_may_5 : decode cX11_may 5 = .ok (.invokevirtual 376, 3) := by decide +kernel
theorem dX11_may_8 : decode cX11_may 8 = .ok (.astore_n 3, 1) := by decide +kernel
theorem dX11_may_9 : decode cX11_may 9 = .ok (.aload_n 3, 1) := by decide +kernel
theorem dX11_may_10 : decode cX11_may 10 = .ok (.ifnonnull 5, 3) := by decide +kernel
theorem dX11_may_13 : decode cX11_may 13 = .ok (.iconst (-1), 1) := by decide +kernel
theorem dX11_may_14 : decode cX11_may 14 = .ok (.ireturn, 1) := by decide +kernel
theorem dX11_may_15 : decode cX11_may 15 = .ok (.iload_n 2, 1) := by decide +kernel
theorem dX11_may_16 : decode cX11_may 16 = .ok (.invokestatic 379, 3) := by decide +kernel
theorem dX11_may_19 : decode cX11_may 19 = .ok (.ifCond .ne 6, 3) := by decide +kernel
theorem dX11_may_22 : decode cX11_may 22 = .ok (.bipush (-2), 2) := by decide +kernel
theorem dX11_may_24 : decode cX11_may 24 = .ok (.ireturn, 1) := by decide +kernel
theorem dX11_may_25 : decode cX11_may 25 = .ok (.aload_n 0, 1) := by decide +kernel
theorem dX11_may_26 : decode cX11_may 26 = .ok (.aload_n 3, 1) := by decide +kernel
theorem dX11_may_27 : decode cX11_may 27 = .ok (.invokevirtual 382, 3) := by decide +kernel
theorem dX11_may_30 : decode cX11_may 30 = .ok (.aload_n 0, 1) := by decide +kernel
theorem dX11_may_31 : decode cX11_may 31 = .ok (.aload_n 3, 1) := by decide +kernel
theorem dX11_may_32 : decode cX11_may 32 = .ok (.iload_n 2, 1) := by decide +kernel
theorem dX11_may_33 : decode cX11_may 33 = .ok (.invokevirtual 385, 3) := by decide +kernel
theorem dX11_may_36 : decode cX11_may 36 = .ok (.ifCond .eq 7, 3) := by decide +kernel
theorem dX11_may_39 : decode cX11_may 39 = .ok (.iconst 1, 1) := by decide +kernel
theorem dX11_may_40 : decode cX11_may 40 = .ok (.goto 4, 3) := by decide +kernel
theorem dX11_may_43 : decode cX11_may 43 = .ok (.iconst 0, 1) := by decide +kernel
theorem dX11_may_44 : decode cX11_may 44 = .ok (.ireturn, 1) := by decide +kernel
def vc_X11_may (l0 : Nat) (l1 : Int32) (l2 : Int32) (M : mj_M) (post : Int32 → mj_M → Prop) : Prop := mj_tag M l0 = 12 ∧ mj_tag M (mj_r M l0 0) = 5 ∧ vc_X4_findWhole (mj_r M l0 0) l1 M (fun r3 M4 => if r3 = 0 then (post ((-1)) M4) else (vc_X11_isPersons l2 M4 (fun r6 M7 => if r6 = true then (mj_tag M7 l0 = 12 ∧ vc_X11_countJoined l0 r3 M7 (fun _ M10 => mj_tag M10 l0 = 12 ∧ vc_X11_mayBuy l0 r3 l2 M10 (fun r12 M13 => if r12 = true then (post 1 M13) else (post 0 M13)))) else (post ((-2)) M7))))
set_option maxHeartbeats 4000000 in
set_option maxRecDepth 100000 in
theorem ct_X11_may {l : Launch} {base : Nat} {D : va_G} {A : ClassId × ClassId × ClassId} (l0 : Nat) (l1 : Int32) (l2 : Int32) (M : mj_M) (post : Int32 → mj_M → Prop) (h : vc_X11_may l0 l1 l2 M post) : mj_Met l base D A mj_jI yX11_may cX11_may 4 (some .int) rm_X11_may 0 0 [vR l0, vI l1, vI l2] M post := by
  refine mj_entry (by decide +kernel) (Nat.le_of_ble_eq_true rfl) (fun g hC hE h1 h2 h3 h4 => ?_)
  show mj_X g 0 [(0, vR l0), (1, vI l1), (2, vI l2)] [] M 0 0
  simp only [vc_X11_may] at h
  refine mx_aload_n (j := 0) hC dX11_may_0 rfl rfl ?_
  obtain ⟨ht1, h⟩ := h
  refine mx_get (v := vR (mj_r M l0 0)) hC tf_X11_10 ht1 rfl dX11_may_1 ?_
  refine mx_iload_n (j := 1) hC dX11_may_4 rfl rfl ?_
  obtain ⟨ht2, h⟩ := h
  refine mx_callV (inj := mj_jR) (As := [vI l1]) (st := []) hC (ct_X4_findWhole (mj_r M l0 0) l1 M _ h) ty_X4_findWhole tw1108 ht2 rfl (Nat.le_of_ble_eq_true rfl) ⟨rfl, rfl, ⟨by decide, by decide⟩, by decide, by decide⟩ dX11_may_5 (fun r3 M4 h => ?_)
  show mj_X g 8 [(0, vR l0), (1, vI l1), (2, vI l2)] [vR r3] M4 0 0
  refine mx_astore_n (L' := [(3, vR r3), (0, vR l0), (1, vI l1), (2, vI l2)]) hC dX11_may_8 rfl (by decide) rfl ?_
  refine mx_aload_n (j := 0) hC dX11_may_9 rfl rfl ?_
  refine mx_ifnonnull (tgt := 15) hC dX11_may_10 (by decide) (fun hc5 => ?_) (fun hc5 => ?_)
  · replace h := mj_nn hc5 h
    refine mx_iload_n (j := 3) hC dX11_may_15 rfl rfl ?_
    refine mx_callS (inj := mj_jB) (As := [vI l2]) (st := []) hC (ct_X11_isPersons l2 M4 _ h) ty_X11_isPersons tw1112 rfl (Nat.le_of_ble_eq_true rfl) ⟨rfl, rfl, ⟨by decide, by decide⟩, by decide, by decide⟩ dX11_may_16 (fun r6 M7 h => ?_)
    show mj_X g 19 [(3, vR r3), (0, vR l0), (1, vI l1), (2, vI l2)] [vI (mj_b r6)] M7 0 0
    refine mx_ifneB (tgt := 25) hC dX11_may_19 (by decide) (fun hc8 => ?_) (fun hc8 => ?_)
    · replace h := mj_yy hc8 h
      refine mx_aload_n (j := 1) hC dX11_may_25 rfl rfl ?_
      refine mx_aload_n (j := 0) hC dX11_may_26 rfl rfl ?_
      obtain ⟨ht9, h⟩ := h
      refine mx_callV (inj := mj_jV) (As := [vR r3]) (st := []) hC (ct_X11_countJoined l0 r3 M7 _ h) ty_X11_countJoined tw1115 ht9 rfl (Nat.le_of_ble_eq_true rfl) ⟨rfl, rfl, ⟨by decide, by decide⟩, by decide, by decide⟩ dX11_may_27 (fun _ M10 h => ?_)
      show mj_X g 30 [(3, vR r3), (0, vR l0), (1, vI l1), (2, vI l2)] [] M10 0 0
      refine mx_aload_n (j := 1) hC dX11_may_30 rfl rfl ?_
      refine mx_aload_n (j := 0) hC dX11_may_31 rfl rfl ?_
      refine mx_iload_n (j := 3) hC dX11_may_32 rfl rfl ?_
      obtain ⟨ht11, h⟩ := h
      refine mx_callV (inj := mj_jB) (As := [vR r3, vI l2]) (st := []) hC (ct_X11_mayBuy l0 r3 l2 M10 _ h) ty_X11_mayBuy tw1126 ht11 rfl (Nat.le_of_ble_eq_true rfl) ⟨rfl, rfl, ⟨by decide, by decide⟩, by decide, by decide⟩ dX11_may_33 (fun r12 M13 h => ?_)
      show mj_X g 36 [(3, vR r3), (0, vR l0), (1, vI l1), (2, vI l2)] [vI (mj_b r12)] M13 0 0
      refine mx_ifeqB (tgt := 43) hC dX11_may_36 (by decide) (fun hc14 => ?_) (fun hc14 => ?_)
      · replace h := mj_nn hc14 h
        refine mx_iconst (v := 0) hC dX11_may_43 (by decide) ?_
        exact mx_iret hC hE rfl dX11_may_44 h
      · replace h := mj_yy hc14 h
        refine mx_iconst (v := 1) hC dX11_may_39 (by decide) ?_
        refine mx_goto (tgt := 44) hC dX11_may_40 (by decide) ?_
        exact mx_iret hC hE rfl dX11_may_44 h
    · replace h := mj_nn hc8 h
      refine mx_bipush (v := (-2)) hC dX11_may_22 (by decide) ?_
      exact mx_iret hC hE rfl dX11_may_24 h
  · replace h := mj_yy hc5 h
    refine mx_iconst (v := (-1)) hC dX11_may_13 (by decide) ?_
    exact mx_iret hC hE rfl dX11_may_14 h
def rm_X11_more : Room := { frames := 11, cells := 0, slots := 0, locals := 322 }
theorem dX11_more_0 : decode cX11_more 0 = .ok (.aload_n 0, 1) := by decide +kernel
theorem dX11_more_1 : decode cX11_more 1 = .ok (.getfield 10, 3) := by decide +kernel
theorem dX11_more_4 : decode cX11_more 4 = .ok (.iload_n 1, 1) := by decide +kernel
theorem dX11_more_5 : decode cX11_more 5 = .ok (.invokevirtual 376, 3) := by decide +kernel
theorem dX11_more_8 : decode cX11_more 8 = .ok (.astore_n 3, 1) := by decide +kernel
theorem dX11_more_9 : decode cX11_more 9 = .ok (.aload_n 3, 1) := by decide +kernel
theorem dX11_more_10 : decode cX11_more 10 = .ok (.ifnonnull 5, 3) := by decide +kernel
theorem dX11_more_13 : decode cX11_more 13 = .ok (.iconst (-1), 1) := by decide +kernel
theorem dX11_more_14 : decode cX11_more 14 = .ok (.ireturn, 1) := by decide +kernel
theorem dX11_more_15 : decode cX11_more 15 = .ok (.iload_n 2, 1) := by decide +kernel
theorem dX11_more_16 : decode cX11_more 16 = .ok (.invokestatic 379, 3) := by decide +kernel
theorem dX11_more_19 : decode cX11_more 19 = .ok (.ifCond .ne 6, 3) := by decide +kernel
theorem dX11_more_22 : decode cX11_more 22 = .ok (.bipush (-2), 2) := by decide +kernel
theorem dX11_more_24 : decode cX11_more 24 = .ok (.ireturn, 1) := by decide +kernel
theorem dX11_more_25 : decode cX11_more 25 = .ok (.aload_n 0, 1) := by decide +kernel
theorem dX11_more_26 : decode cX11_more 26 = .ok (.aload_n 3, 1) := by decide +kernel
theorem dX11_more_27 : decode cX11_more 27 = .ok (.invokevirtual 382, 3) := by decide +kernel
theorem dX11_more_30 : decode cX11_more 30 = .ok (.bipush (-6), 2) := by decide +kernel
theorem dX11_more_32 : decode cX11_more 32 = .ok (.istore 4, 2) := by decide +kernel
theorem dX11_more_34 : decode cX11_more 34 = .ok (.bipush 11, 2) := by decide +kernel
theorem dX11_more_36 : decode cX11_more 36 = .ok (.istore 5, 2) := by decide +kernel
theorem dX11_more_38 : decode cX11_more 38 = .ok (.iconst 0, 1) := by decide +kernel
theorem dX11_more_39 : decode cX11_more 39 = .ok (.istore 6, 2) := by decide +kernel
theorem dX11_more_41 : decode cX11_more 41 = .ok (.iload 6, 2) := by decide +kernel
theorem dX11_more_43 : decode cX11_more 43 = .ok (.sipush 1024, 3) := by decide +kernel
theorem dX11_more_46 : decode cX11_more 46 = .ok (.if_icmp .ge 50, 3) := by decide +kernel
theorem dX11_more_49 : decode cX11_more 49 = .ok (.iload 6, 2) := by decide +kernel
theorem dX11_more_51 : decode cX11_more 51 = .ok (.invokestatic 388, 3) := by decide +kernel
theorem dX11_more_54 : decode cX11_more 54 = .ok (.istore 7, 2) := by decide +kernel
theorem dX11_more_56 : decode cX11_more 56 = .ok (.iload 7, 2) := by decide +kernel
theorem dX11_more_58 : decode cX11_more 58 = .ok (.iload 5, 2) := by decide +kernel
theorem dX11_more_60 : decode cX11_more 60 = .ok (.if_icmp .ge 30, 3) := by decide +kernel
theorem dX11_more_63 : decode cX11_more 63 = .ok (.iload 6, 2) := by decide +kernel
theorem dX11_more_65 : decode cX11_more 65 = .ok (.iload_n 2, 1) := by decide +kernel
theorem dX11_more_66 : decode cX11_more 66 = .ok (.iand, 1) := by decide +kernel
theorem dX11_more_67 : decode cX11_more 67 = .ok (.ifCond .ne 23, 3) := by decide +kernel
theorem dX11_more_70 : decode cX11_more 70 = .ok (.aload_n 0, 1) := by decide +kernel
theorem dX11_more_71 : decode cX11_more 71 = .ok (.aload_n 3, 1) := by decide +kernel
theorem dX11_more_72 : decode cX11_more 72 = .ok (.iload_n 2, 1) := by decide +kernel
theorem dX11_more_73 : decode cX11_more 73 = .ok (.iload 6, 2) := by decide +kernel
theorem dX11_more_75 : decode cX11_more 75 = .ok (.ior, 1) := by decide +kernel
theorem dX11_more_76 : decode cX11_more 76 = .ok (.invokevirtual 385, 3) := by decide +kernel
theorem dX11_more_79 : decode cX11_more 79 = .ok (.ifCond .eq 11, 3) := by decide +kernel
theorem dX11_more_82 : decode cX11_more 82 = .ok (.iload 6, 2) := by decide +kernel
theorem dX11_more_84 : decode cX11_more 84 = .ok (.istore 4, 2) := by decide +kernel
theorem dX11_more_86 : decode cX11_more 86 = .ok (.iload 7, 2) := by decide +kernel
theorem dX11_more_88 : decode cX11_more 88 = .ok (.istore 5, 2) := by decide +kernel
theorem dX11_more_90 : decode cX11_more 90 = .ok (.iinc 6 1, 3) := by decide +kernel
theorem dX11_more_93 : decode cX11_more 93 = .ok (.goto (-52), 3) := by decide +kernel
theorem dX11_more_96 : decode cX11_more 96 = .ok (.iload 4, 2) := by decide +kernel
theorem dX11_more_98 : decode cX11_more 98 = .ok (.ireturn, 1) := by decide +kernel
def vb_X11_more_41 (post : Int32 → mj_M → Prop) : Nat → Nat → Int32 → Nat → Int32 → Int32 → Int32 → mj_M → Prop
  | 0 => fun _ _ _ _ _ _ _ => False
  | f + 1 => fun l0 l2 l3 l4 l5 l6 M => if 1024 ≤ l6 then (post l4 M) else (vc_J6_bitCount_0f7a4 l6 M (fun r2 M3 => if l5 ≤ r2 then (vb_X11_more_41 post f l0 l2 l3 l4 l5 (l6 + 1) M3) else (if (l6 &&& l2) = 0 then (mj_tag M3 l0 = 12 ∧ vc_X11_mayBuy l0 l3 (l2 ||| l6) M3 (fun r7 M8 => if r7 = true then (vb_X11_more_41 post f l0 l2 l3 l6 r2 (l6 + 1) M8) else (vb_X11_more_41 post f l0 l2 l3 l4 l5 (l6 + 1) M8))) else (vb_X11_more_41 post f l0 l2 l3 l4 l5 (l6 + 1) M3))))
def vc_X11_more (l0 : Nat) (l1 : Int32) (l2 : Int32) (M : mj_M) (post : Int32 → mj_M → Prop) : Prop := mj_tag M l0 = 12 ∧ mj_tag M (mj_r M l0 0) = 5 ∧ vc_X4_findWhole (mj_r M l0 0) l1 M (fun r12 M13 => if r12 = 0 then (post ((-1)) M13) else (vc_X11_isPersons l2 M13 (fun r15 M16 => if r15 = true then (mj_tag M16 l0 = 12 ∧ vc_X11_countJoined l0 r12 M16 (fun _ M19 => ∃ fe, vb_X11_more_41 post fe l0 l2 r12 ((-6)) 11 0 M19)) else (post ((-2)) M16))))
set_option maxHeartbeats 4000000 in
set_option maxRecDepth 100000 in
theorem xb_X11_more_41 {g : mj_G} {post : Int32 → mj_M → Prop} (hC : mj_C g yX11_more cX11_more 8 (some .int) rm_X11_more) (hE : mj_E g mj_jI post 0 0) : ∀ (f : Nat) (l0 : Nat) (l2 : Int32) (l3 : Nat) (l4 : Int32) (l5 : Int32) (l6 : Int32) (M : mj_M), vb_X11_more_41 post f l0 l2 l3 l4 l5 l6 M → mj_X g 41 [(0, vR l0), (2, vI l2), (3, vR l3), (4, vI l4), (5, vI l5), (6, vI l6)] [] M 0 0 := by
  intro f
  induction f with
  | zero => exact fun _ _ _ _ _ _ _ h => absurd h (fun z => z)
  | succ f ih =>
    intro l0 l2 l3 l4 l5 l6 M h
    simp only [vb_X11_more_41] at h
    refine mx_iload (j := 5) hC dX11_more_41 rfl ?_
    refine mx_sipush (v := 1024) hC dX11_more_43 (by decide) ?_
    refine mx_icmpge (tgt := 96) hC dX11_more_46 (by decide) (fun hc1 => ?_) (fun hc1 => ?_)
    · replace h := mj_yy hc1 h
      refine mx_iload (j := 3) hC dX11_more_96 rfl ?_
      exact mx_iret hC hE rfl dX11_more_98 h
    · replace h := mj_nn hc1 h
      refine mx_iload (j := 5) hC dX11_more_49 rfl ?_
      refine mx_callS (inj := mj_jI) (As := [vI l6]) (st := []) hC (ct_J6_bitCount_0f7a4 l6 M _ h) ty_J6_bitCount_0f7a4 tw1130 rfl (Nat.le_of_ble_eq_true rfl) ⟨rfl, rfl, ⟨by decide, by decide⟩, by decide, by decide⟩ dX11_more_51 (fun r2 M3 h => ?_)
      show mj_X g 54 [(0, vR l0), (2, vI l2), (3, vR l3), (4, vI l4), (5, vI l5), (6, vI l6)] [vI r2] M3 0 0
      refine mx_istore (L' := [(7, vI r2), (0, vR l0), (2, vI l2), (3, vR l3), (4, vI l4), (5, vI l5), (6, vI l6)]) hC dX11_more_54 (by decide) rfl ?_
      refine mx_iload (j := 0) hC dX11_more_56 rfl ?_
      refine mx_iload (j := 5) hC dX11_more_58 rfl ?_
      refine mx_icmpge (tgt := 90) hC dX11_more_60 (by decide) (fun hc4 => ?_) (fun hc4 => ?_)
      · replace h := mj_yy hc4 h
        refine mx_iinc (j := 6) (v := l6 + 1) (L' := [(6, vI (l6 + 1)), (7, vI r2), (0, vR l0), (2, vI l2), (3, vR l3), (4, vI l4), (5, vI l5)]) hC dX11_more_90 rfl rfl (by decide) rfl ?_
        refine mx_goto (tgt := 41) hC dX11_more_93 (by decide) ?_
        refine mx_sub (L' := [(0, vR l0), (2, vI l2), (3, vR l3), (4, vI l4), (5, vI l5), (6, vI (l6 + 1))]) [2, 3, 4, 5, 6, 0] rfl ?_
        exact show mj_X g 41 [(0, vR l0), (2, vI l2), (3, vR l3), (4, vI l4), (5, vI l5), (6, vI (l6 + 1))] [] M3 0 0 from (ih l0 l2 l3 l4 l5 (l6 + 1) M3 h)
      · replace h := mj_nn hc4 h
        refine mx_iload (j := 6) hC dX11_more_63 rfl ?_
        refine mx_iload_n (j := 2) hC dX11_more_65 rfl rfl ?_
        refine mx_iand hC dX11_more_66 ?_
        refine mx_ifne (tgt := 90) hC dX11_more_67 (by decide) (fun hc5 => ?_) (fun hc5 => ?_)
        · replace h := mj_nn hc5 h
          refine mx_iinc (j := 6) (v := l6 + 1) (L' := [(6, vI (l6 + 1)), (7, vI r2), (0, vR l0), (2, vI l2), (3, vR l3), (4, vI l4), (5, vI l5)]) hC dX11_more_90 rfl rfl (by decide) rfl ?_
          refine mx_goto (tgt := 41) hC dX11_more_93 (by decide) ?_
          refine mx_sub (L' := [(0, vR l0), (2, vI l2), (3, vR l3), (4, vI l4), (5, vI l5), (6, vI (l6 + 1))]) [2, 3, 4, 5, 6, 0] rfl ?_
          exact show mj_X g 41 [(0, vR l0), (2, vI l2), (3, vR l3), (4, vI l4), (5, vI l5), (6, vI (l6 + 1))] [] M3 0 0 from (ih l0 l2 l3 l4 l5 (l6 + 1) M3 h)
        · replace h := mj_yy hc5 h
          refine mx_aload_n (j := 1) hC dX11_more_70 rfl rfl ?_
          refine mx_aload_n (j := 3) hC dX11_more_71 rfl rfl ?_
          refine mx_iload_n (j := 2) hC dX11_more_72 rfl rfl ?_
          refine mx_iload (j := 6) hC dX11_more_73 rfl ?_
          refine mx_ior hC dX11_more_75 ?_
          obtain ⟨ht6, h⟩ := h
          refine mx_callV (inj := mj_jB) (As := [vR l3, vI (l2 ||| l6)]) (st := []) hC (ct_X11_mayBuy l0 l3 (l2 ||| l6) M3 _ h) ty_X11_mayBuy tw1126 ht6 rfl (Nat.le_of_ble_eq_true rfl) ⟨rfl, rfl, ⟨by decide, by decide⟩, by decide, by decide⟩ dX11_more_76 (fun r7 M8 h => ?_)
          show mj_X g 79 [(7, vI r2), (0, vR l0), (2, vI l2), (3, vR l3), (4, vI l4), (5, vI l5), (6, vI l6)] [vI (mj_b r7)] M8 0 0
          refine mx_ifeqB (tgt := 90) hC dX11_more_79 (by decide) (fun hc9 => ?_) (fun hc9 => ?_)
          · replace h := mj_nn hc9 h
            refine mx_iinc (j := 6) (v := l6 + 1) (L' := [(6, vI (l6 + 1)), (7, vI r2), (0, vR l0), (2, vI l2), (3, vR l3), (4, vI l4), (5, vI l5)]) hC dX11_more_90 rfl rfl (by decide) rfl ?_
            refine mx_goto (tgt := 41) hC dX11_more_93 (by decide) ?_
            refine mx_sub (L' := [(0, vR l0), (2, vI l2), (3, vR l3), (4, vI l4), (5, vI l5), (6, vI (l6 + 1))]) [2, 3, 4, 5, 6, 0] rfl ?_
            exact show mj_X g 41 [(0, vR l0), (2, vI l2), (3, vR l3), (4, vI l4), (5, vI l5), (6, vI (l6 + 1))] [] M8 0 0 from (ih l0 l2 l3 l4 l5 (l6 + 1) M8 h)
          · replace h := mj_yy hc9 h
            refine mx_iload (j := 6) hC dX11_more_82 rfl ?_
            refine mx_istore (L' := [(4, vI l6), (7, vI r2), (0, vR l0), (2, vI l2), (3, vR l3), (5, vI l5), (6, vI l6)]) hC dX11_more_84 (by decide) rfl ?_
            refine mx_iload (j := 1) hC dX11_more_86 rfl ?_
            refine mx_istore (L' := [(5, vI r2), (4, vI l6), (7, vI r2), (0, vR l0), (2, vI l2), (3, vR l3), (6, vI l6)]) hC dX11_more_88 (by decide) rfl ?_
            refine mx_iinc (j := 6) (v := l6 + 1) (L' := [(6, vI (l6 + 1)), (5, vI r2), (4, vI l6), (7, vI r2), (0, vR l0), (2, vI l2), (3, vR l3)]) hC dX11_more_90 rfl rfl (by decide) rfl ?_
            refine mx_goto (tgt := 41) hC dX11_more_93 (by decide) ?_
            refine mx_sub (L' := [(0, vR l0), (2, vI l2), (3, vR l3), (4, vI l6), (5, vI r2), (6, vI (l6 + 1))]) [4, 5, 6, 2, 1, 0] rfl ?_
            exact show mj_X g 41 [(0, vR l0), (2, vI l2), (3, vR l3), (4, vI l6), (5, vI r2), (6, vI (l6 + 1))] [] M8 0 0 from (ih l0 l2 l3 l6 r2 (l6 + 1) M8 h)
set_option maxHeartbeats 4000000 in
set_option maxRecDepth 100000 in
theorem ct_X11_more {l : Launch} {base : Nat} {D : va_G} {A : ClassId × ClassId × ClassId} (l0 : Nat) (l1 : Int32) (l2 : Int32) (M : mj_M) (post : Int32 → mj_M → Prop) (h : vc_X11_more l0 l1 l2 M post) : mj_Met l base D A mj_jI yX11_more cX11_more 8 (some .int) rm_X11_more 0 0 [vR l0, vI l1, vI l2] M post := by
  refine mj_entry (by decide +kernel) (Nat.le_of_ble_eq_true rfl) (fun g hC hE h1 h2 h3 h4 => ?_)
  show mj_X g 0 [(0, vR l0), (1, vI l1), (2, vI l2)] [] M 0 0
  simp only [vc_X11_more] at h
  refine mx_aload_n (j := 0) hC dX11_more_0 rfl rfl ?_
  obtain ⟨ht10, h⟩ := h
  refine mx_get (v := vR (mj_r M l0 0)) hC tf_X11_10 ht10 rfl dX11_more_1 ?_
  refine mx_iload_n (j := 1) hC dX11_more_4 rfl rfl ?_
  obtain ⟨ht11, h⟩ := h
  refine mx_callV (inj := mj_jR) (As := [vI l1]) (st := []) hC (ct_X4_findWhole (mj_r M l0 0) l1 M _ h) ty_X4_findWhole tw1108 ht11 rfl (Nat.le_of_ble_eq_true rfl) ⟨rfl, rfl, ⟨by decide, by decide⟩, by decide, by decide⟩ dX11_more_5 (fun r12 M13 h => ?_)
  show mj_X g 8 [(0, vR l0), (1, vI l1), (2, vI l2)] [vR r12] M13 0 0
  refine mx_astore_n (L' := [(3, vR r12), (0, vR l0), (1, vI l1), (2, vI l2)]) hC dX11_more_8 rfl (by decide) rfl ?_
  refine mx_aload_n (j := 0) hC dX11_more_9 rfl rfl ?_
  refine mx_ifnonnull (tgt := 15) hC dX11_more_10 (by decide) (fun hc14 => ?_) (fun hc14 => ?_)
  · replace h := mj_nn hc14 h
    refine mx_iload_n (j := 3) hC dX11_more_15 rfl rfl ?_
    refine mx_callS (inj := mj_jB) (As := [vI l2]) (st := []) hC (ct_X11_isPersons l2 M13 _ h) ty_X11_isPersons tw1112 rfl (Nat.le_of_ble_eq_true rfl) ⟨rfl, rfl, ⟨by decide, by decide⟩, by decide, by decide⟩ dX11_more_16 (fun r15 M16 h => ?_)
    show mj_X g 19 [(3, vR r12), (0, vR l0), (1, vI l1), (2, vI l2)] [vI (mj_b r15)] M16 0 0
    refine mx_ifneB (tgt := 25) hC dX11_more_19 (by decide) (fun hc17 => ?_) (fun hc17 => ?_)
    · replace h := mj_yy hc17 h
      refine mx_aload_n (j := 1) hC dX11_more_25 rfl rfl ?_
      refine mx_aload_n (j := 0) hC dX11_more_26 rfl rfl ?_
      obtain ⟨ht18, h⟩ := h
      refine mx_callV (inj := mj_jV) (As := [vR r12]) (st := []) hC (ct_X11_countJoined l0 r12 M16 _ h) ty_X11_countJoined tw1115 ht18 rfl (Nat.le_of_ble_eq_true rfl) ⟨rfl, rfl, ⟨by decide, by decide⟩, by decide, by decide⟩ dX11_more_27 (fun _ M19 h => ?_)
      show mj_X g 30 [(3, vR r12), (0, vR l0), (1, vI l1), (2, vI l2)] [] M19 0 0
      refine mx_bipush (v := (-6)) hC dX11_more_30 (by decide) ?_
      refine mx_istore (L' := [(4, vI ((-6))), (3, vR r12), (0, vR l0), (1, vI l1), (2, vI l2)]) hC dX11_more_32 (by decide) rfl ?_
      refine mx_bipush (v := 11) hC dX11_more_34 (by decide) ?_
      refine mx_istore (L' := [(5, vI 11), (4, vI ((-6))), (3, vR r12), (0, vR l0), (1, vI l1), (2, vI l2)]) hC dX11_more_36 (by decide) rfl ?_
      refine mx_iconst (v := 0) hC dX11_more_38 (by decide) ?_
      refine mx_istore (L' := [(6, vI 0), (5, vI 11), (4, vI ((-6))), (3, vR r12), (0, vR l0), (1, vI l1), (2, vI l2)]) hC dX11_more_39 (by decide) rfl ?_
      refine mx_sub (L' := [(0, vR l0), (2, vI l2), (3, vR r12), (4, vI ((-6))), (5, vI 11), (6, vI 0)]) [4, 6, 3, 2, 1, 0] rfl ?_
      obtain ⟨fe, h⟩ := h
      exact show mj_X g 41 [(0, vR l0), (2, vI l2), (3, vR r12), (4, vI ((-6))), (5, vI 11), (6, vI 0)] [] M19 0 0 from (xb_X11_more_41 hC hE fe l0 l2 r12 ((-6)) 11 0 M19 h)
    · replace h := mj_nn hc17 h
      refine mx_bipush (v := (-2)) hC dX11_more_22 (by decide) ?_
      exact mx_iret hC hE rfl dX11_more_24 h
  · replace h := mj_yy hc14 h
    refine mx_iconst (v := (-1)) hC dX11_more_13 (by decide) ?_
    exact mx_iret hC hE rfl dX11_more_14 h
def rm_X11_breach : Room := { frames := 3, cells := 0, slots := 0, locals := 62 }
theorem dX11_breach_0 : decode cX11_breach 0 = .ok (.aload_n 0, 1) := by decide +kernel
theorem dX11_breach_1 : decode cX11_breach 1 = .ok (.getfield 10, 3) := by decide +kernel
theorem dX11_breach_4 : decode cX11_breach 4 = .ok (.iload_n 1, 1) := by decide +kernel
theorem dX11_breach_5 : decode cX11_breach 5 = .ok (.invokevirtual 121, 3) := by decide +kernel
theorem dX11_breach_8 : decode cX11_breach 8 = .ok (.astore_n 3, 1) := by decide +kernel
theorem dX11_breach_9 : decode cX11_breach 9 = .ok (.aload_n 3, 1) := by decide +kernel
theorem dX11_breach_10 : decode cX11_breach 10 = .ok (.ifnonnull 5, 3) := by decide +kernel
theorem dX11_breach_13 : decode cX11_breach 13 = .ok (.iconst (-1), 1) := by decide +kernel
theorem dX11_breach_14 : decode cX11_breach 14 = .ok (.ireturn, 1) := by decide +kernel
theorem dX11_breach_15 : decode cX11_breach 15 = .ok (.aload_n 0, 1) := by decide +kernel
theorem dX11_breach_16 : decode cX11_breach 16 = .ok (.getfield 10, 3) := by decide +kernel
theorem dX11_breach_19 : decode cX11_breach 19 = .ok (.aload_n 3, 1) := by decide +kernel
theorem dX11_breach_20 : decode cX11_breach 20 = .ok (.invokevirtual 111, 3) := by decide +kernel
theorem dX11_breach_23 : decode cX11_breach 23 = .ok (.ifCond .ne 6, 3) := by decide +kernel
theorem dX11_breach_26 : decode cX11_breach 26 = .ok (.bipush (-3), 2) := by decide +kernel
theorem dX11_breach_28 : decode cX11_breach 28 = .ok (.ireturn, 1) := by decide +kernel
theorem dX11_breach_29 : decode cX11_breach 29 = .ok (.iload_n 2, 1) := by decide +kernel
theorem dX11_breach_30 : decode cX11_breach 30 = .ok (.aload_n 3, 1) := by decide +kernel
theorem dX11_breach_31 : decode cX11_breach 31 = .ok (.getfield 169, 3) := by decide +kernel
theorem dX11_breach_34 : decode cX11_breach 34 = .ok (.bipush (-6), 2) := by decide +kernel
theorem dX11_breach_36 : decode cX11_breach 36 = .ok (.if_icmp .eq 7, 3) := by decide +kernel
theorem dX11_breach_39 : decode cX11_breach 39 = .ok (.iconst 1, 1) := by decide +kernel
theorem dX11_breach_40 : decode cX11_breach 40 = .ok (.goto 4, 3) := by decide +kernel
theorem dX11_breach_43 : decode cX11_breach 43 = .ok (.iconst 0, 1) := by decide +kernel
theorem dX11_breach_44 : decode cX11_breach 44 = .ok (.if_icmp .ne 5, 3) := by decide +kernel
theorem dX11_breach_47 : decode cX11_breach 47 = .ok (.iconst 0, 1) := by decide +kernel
theorem dX11_breach_48 : decode cX11_breach 48 = .ok (.ireturn, 1) := by decide +kernel
theorem dX11_breach_49 : decode cX11_breach 49 = .ok (.aload_n 3, 1) := by decide +kernel
theorem dX11_breach_50 : decode cX11_breach 50 = .ok (.iload_n 2, 1) := by decide +kernel
theorem dX11_breach_51 : decode cX11_breach 51 = .ok (.ifCond .eq 13, 3) := by decide +kernel
theorem dX11_breach_54 : decode cX11_breach 54 = .ok (.aload_n 0, 1) := by decide +kernel
theorem dX11_breach_55 : decode cX11_breach 55 = .ok (.getfield 10, 3) := by decide +kernel
theorem dX11_breach_58 : decode cX11_breach 58 = .ok (.getfield 66, 3) := by decide +kernel
theorem dX11_breach_61 : decode cX11_breach 61 = .ok (.goto 5, 3) := by decide +kernel
theorem dX11_breach_64 : decode cX11_breach 64 = .ok (.bipush (-6), 2) := by decide +kernel
theorem dX11_breach_66 : decode cX11_breach 66 = .ok (.putfield 169, 3) := by decide +kernel
theorem dX11_breach_69 : decode cX11_breach 69 = .ok (.iconst 1, 1) := by decide +kernel
theorem dX11_breach_70 : decode cX11_breach 70 = .ok (.ireturn, 1) := by decide +kernel
def vb_X11_breach_44 (post : Int32 → mj_M → Prop) (l0 : Nat) (l2 : Bool) (l3 : Nat) (s0 : Bool) (s1 : Bool) (M : mj_M) : Prop := if (mj_b s0) = (mj_b s1) then (post 0 M) else (if l2 = true then (mj_tag M l0 = 12 ∧ mj_tag M (mj_r M l0 0) = 5 ∧ mj_tag M l3 = 4 ∧ post 1 (mj_wi M l3 12 (mj_i M (mj_r M l0 0) 0))) else (mj_tag M l3 = 4 ∧ post 1 (mj_wi M l3 12 ((-6)))))
def vc_X11_breach (l0 : Nat) (l1 : Int32) (l2 : Bool) (M : mj_M) (post : Int32 → mj_M → Prop) : Prop := mj_tag M l0 = 12 ∧ mj_tag M (mj_r M l0 0) = 5 ∧ vc_X4_findLease (mj_r M l0 0) l1 M (fun r9 M10 => if r9 = 0 then (post ((-1)) M10) else (mj_tag M10 l0 = 12 ∧ mj_tag M10 (mj_r M10 l0 0) = 5 ∧ vc_X4_isInForce (mj_r M10 l0 0) r9 M10 (fun r14 M15 => if r14 = true then (mj_tag M15 r9 = 4 ∧ if (mj_i M15 r9 12) = ((-6)) then (vb_X11_breach_44 post l0 l2 r9 l2 false M15) else (vb_X11_breach_44 post l0 l2 r9 l2 true M15)) else (post ((-3)) M15))))
set_option maxHeartbeats 4000000 in
set_option maxRecDepth 100000 in
theorem xb_X11_breach_44 {g : mj_G} {post : Int32 → mj_M → Prop} (hC : mj_C g yX11_breach cX11_breach 4 (some .int) rm_X11_breach) (hE : mj_E g mj_jI post 0 0) (l0 : Nat) (l2 : Bool) (l3 : Nat) (s0 : Bool) (s1 : Bool) (M : mj_M) (h : vb_X11_breach_44 post l0 l2 l3 s0 s1 M) : mj_X g 44 [(0, vR l0), (2, vI (mj_b l2)), (3, vR l3)] [vI (mj_b s1), vI (mj_b s0)] M 0 0 := by
  simp only [vb_X11_breach_44] at h
  refine mx_icmpne (tgt := 49) hC dX11_breach_44 (by decide) (fun hc1 => ?_) (fun hc1 => ?_)
  · replace h := mj_nn hc1 h
    refine mx_aload_n (j := 2) hC dX11_breach_49 rfl rfl ?_
    refine mx_iload_n (j := 1) hC dX11_breach_50 rfl rfl ?_
    refine mx_ifeqB (tgt := 64) hC dX11_breach_51 (by decide) (fun hc2 => ?_) (fun hc2 => ?_)
    · replace h := mj_nn hc2 h
      refine mx_bipush (v := (-6)) hC dX11_breach_64 (by decide) ?_
      obtain ⟨ht3, h⟩ := h
      refine mx_put (v := vI ((-6))) (M1 := mj_wi M l3 12 ((-6))) hC tf_X11_169 ht3 (Or.inl rfl) ⟨rfl, rfl⟩ (mj_off_wi _ _ _ _) mj_put_wi dX11_breach_66 ?_
      refine mx_iconst (v := 1) hC dX11_breach_69 (by decide) ?_
      exact mx_iret hC hE rfl dX11_breach_70 h
    · replace h := mj_yy hc2 h
      refine mx_aload_n (j := 0) hC dX11_breach_54 rfl rfl ?_
      obtain ⟨ht4, h⟩ := h
      refine mx_get (v := vR (mj_r M l0 0)) hC tf_X11_10 ht4 rfl dX11_breach_55 ?_
      obtain ⟨ht5, h⟩ := h
      refine mx_get (v := vI (mj_i M (mj_r M l0 0) 0)) hC tf_X11_66 ht5 rfl dX11_breach_58 ?_
      refine mx_goto (tgt := 66) hC dX11_breach_61 (by decide) ?_
      obtain ⟨ht6, h⟩ := h
      refine mx_put (v := vI (mj_i M (mj_r M l0 0) 0)) (M1 := mj_wi M l3 12 (mj_i M (mj_r M l0 0) 0)) hC tf_X11_169 ht6 (Or.inl rfl) ⟨rfl, rfl⟩ (mj_off_wi _ _ _ _) mj_put_wi dX11_breach_66 ?_
      refine mx_iconst (v := 1) hC dX11_breach_69 (by decide) ?_
      exact mx_iret hC hE rfl dX11_breach_70 h
  · replace h := mj_yy hc1 h
    refine mx_iconst (v := 0) hC dX11_breach_47 (by decide) ?_
    exact mx_iret hC hE rfl dX11_breach_48 h
set_option maxHeartbeats 4000000 in
set_option maxRecDepth 100000 in
theorem ct_X11_breach {l : Launch} {base : Nat} {D : va_G} {A : ClassId × ClassId × ClassId} (l0 : Nat) (l1 : Int32) (l2 : Bool) (M : mj_M) (post : Int32 → mj_M → Prop) (h : vc_X11_breach l0 l1 l2 M post) : mj_Met l base D A mj_jI yX11_breach cX11_breach 4 (some .int) rm_X11_breach 0 0 [vR l0, vI l1, vI (mj_b l2)] M post := by
  refine mj_entry (by decide +kernel) (Nat.le_of_ble_eq_true rfl) (fun g hC hE h1 h2 h3 h4 => ?_)
  show mj_X g 0 [(0, vR l0), (1, vI l1), (2, vI (mj_b l2))] [] M 0 0
  simp only [vc_X11_breach] at h
  refine mx_aload_n (j := 0) hC dX11_breach_0 rfl rfl ?_
  obtain ⟨ht7, h⟩ := h
  refine mx_get (v := vR (mj_r M l0 0)) hC tf_X11_10 ht7 rfl dX11_breach_1 ?_
  refine mx_iload_n (j := 1) hC dX11_breach_4 rfl rfl ?_
  obtain ⟨ht8, h⟩ := h
  refine mx_callV (inj := mj_jR) (As := [vI l1]) (st := []) hC (ct_X4_findLease (mj_r M l0 0) l1 M _ h) ty_X4_findLease tw470 ht8 rfl (Nat.le_of_ble_eq_true rfl) ⟨rfl, rfl, ⟨by decide, by decide⟩, by decide, by decide⟩ dX11_breach_5 (fun r9 M10 h => ?_)
  show mj_X g 8 [(0, vR l0), (1, vI l1), (2, vI (mj_b l2))] [vR r9] M10 0 0
  refine mx_astore_n (L' := [(3, vR r9), (0, vR l0), (1, vI l1), (2, vI (mj_b l2))]) hC dX11_breach_8 rfl (by decide) rfl ?_
  refine mx_aload_n (j := 0) hC dX11_breach_9 rfl rfl ?_
  refine mx_ifnonnull (tgt := 15) hC dX11_breach_10 (by decide) (fun hc11 => ?_) (fun hc11 => ?_)
  · replace h := mj_nn hc11 h
    refine mx_aload_n (j := 1) hC dX11_breach_15 rfl rfl ?_
    obtain ⟨ht12, h⟩ := h
    refine mx_get (v := vR (mj_r M10 l0 0)) hC tf_X11_10 ht12 rfl dX11_breach_16 ?_
    refine mx_aload_n (j := 0) hC dX11_breach_19 rfl rfl ?_
    obtain ⟨ht13, h⟩ := h
    refine mx_callV (inj := mj_jB) (As := [vR r9]) (st := []) hC (ct_X4_isInForce (mj_r M10 l0 0) r9 M10 _ h) ty_X4_isInForce tw458 ht13 rfl (Nat.le_of_ble_eq_true rfl) ⟨rfl, rfl, ⟨by decide, by decide⟩, by decide, by decide⟩ dX11_breach_20 (fun r14 M15 h => ?_)
    show mj_X g 23 [(3, vR r9), (0, vR l0), (1, vI l1), (2, vI (mj_b l2))] [vI (mj_b r14)] M15 0 0
    refine mx_ifneB (tgt := 29) hC dX11_breach_23 (by decide) (fun hc16 => ?_) (fun hc16 => ?_)
    · replace h := mj_yy hc16 h
      refine mx_iload_n (j := 3) hC dX11_breach_29 rfl rfl ?_
      refine mx_aload_n (j := 0) hC dX11_breach_30 rfl rfl ?_
      obtain ⟨ht17, h⟩ := h
      refine mx_get (v := vI (mj_i M15 r9 12)) hC tf_X11_169 ht17 rfl dX11_breach_31 ?_
      refine mx_bipush (v := (-6)) hC dX11_breach_34 (by decide) ?_
      refine mx_icmpeq (tgt := 43) hC dX11_breach_36 (by decide) (fun hc18 => ?_) (fun hc18 => ?_)
      · replace h := mj_yy hc18 h
        refine mx_iconst (v := 0) hC dX11_breach_43 (by decide) ?_
        refine mx_sub (L' := [(0, vR l0), (2, vI (mj_b l2)), (3, vR r9)]) [1, 3, 0] rfl ?_
        exact show mj_X g 44 [(0, vR l0), (2, vI (mj_b l2)), (3, vR r9)] [vI (mj_b false), vI (mj_b l2)] M15 0 0 from (xb_X11_breach_44 hC hE l0 l2 r9 l2 false M15 h)
      · replace h := mj_nn hc18 h
        refine mx_iconst (v := 1) hC dX11_breach_39 (by decide) ?_
        refine mx_goto (tgt := 44) hC dX11_breach_40 (by decide) ?_
        refine mx_sub (L' := [(0, vR l0), (2, vI (mj_b l2)), (3, vR r9)]) [1, 3, 0] rfl ?_
        exact show mj_X g 44 [(0, vR l0), (2, vI (mj_b l2)), (3, vR r9)] [vI (mj_b true), vI (mj_b l2)] M15 0 0 from (xb_X11_breach_44 hC hE l0 l2 r9 l2 true M15 h)
    · replace h := mj_nn hc16 h
      refine mx_bipush (v := (-3)) hC dX11_breach_26 (by decide) ?_
      exact mx_iret hC hE rfl dX11_breach_28 h
  · replace h := mj_yy hc11 h
    refine mx_iconst (v := (-1)) hC dX11_breach_13 (by decide) ?_
    exact mx_iret hC hE rfl dX11_breach_14 h
theorem tw1143 : (Jvm.Cond.methodLink "LeaseLand" (405 : Nat) ({ cls := "LeaseLand$Land", name := "letFall", desc := "(LLeaseLand$Holding;LLeaseLand$Holding;)I" } : Jvm.MethodName)) ∈ mj_tbl := mj_w 1196 (by decide +kernel) (by decide +kernel)
def rm_X11_forfeit : Room := { frames := 3, cells := 0, slots := 0, locals := 67 }
theorem dX11_forfeit_0 : decode cX11_forfeit 0 = .ok (.aload_n 0, 1) := by decide +kernel
theorem dX11_forfeit_1 : decode cX11_forfeit 1 = .ok (.getfield 10, 3) := by decide +kernel
theorem dX11_forfeit_4 : decode cX11_forfeit 4 = .ok (.iload_n 1, 1) := by decide +kernel
theorem dX11_forfeit_5 : decode cX11_forfeit 5 = .ok (.invokevirtual 121, 3) := by decide +kernel
theorem dX11_forfeit_8 : decode cX11_forfeit 8 = .ok (.astore_n 2, 1) := by decide +kernel
theorem dX11_forfeit_9 : decode cX11_forfeit 9 = .ok (.aload_n 2, 1) := by decide +kernel
theorem dX11_forfeit_10 : decode cX11_forfeit 10 = .ok (.ifnonnull 5, 3) := by decide +kernel
theorem dX11_forfeit_13 : decode cX11_forfeit 13 = .ok (.iconst (-1), 1) := by decide +kernel
theorem dX11_forfeit_14 : decode cX11_forfeit 14 = .ok (.ireturn, 1) := by decide +kernel
theorem dX11_forfeit_15 : decode cX11_forfeit 15 = .ok (.aload_n 0, 1) := by decide +kernel
theorem dX11_forfeit_16 : decode cX11_forfeit 16 = .ok (.getfield 10, 3) := by decide +kernel
theorem dX11_forfeit_19 : decode cX11_forfeit 19 = .ok (.aload_n 2, 1) := by decide +kernel
theorem dX11_forfeit_20 : decode cX11_forfeit 20 = .ok (.invokevirtual 111, 3) := by decide +kernel
theorem dX11_forfeit_23 : decode cX11_forfeit 23 = .ok (.ifCond .ne 6, 3) := by decide +kernel
theorem dX11_forfeit_26 : decode cX11_forfeit 26 = .ok (.bipush (-3), 2) := by decide +kernel
theorem dX11_forfeit_28 : decode cX11_forfeit 28 = .ok (.ireturn, 1) := by decide +kernel
theorem dX11_forfeit_29 : decode cX11_forfeit 29 = .ok (.aload_n 2, 1) := by decide +kernel
theorem dX11_forfeit_30 : decode cX11_forfeit 30 = .ok (.getfield 169, 3) := by decide +kernel
theorem dX11_forfeit_33 : decode cX11_forfeit 33 = .ok (.bipush (-6), 2) := by decide +kernel
theorem dX11_forfeit_35 : decode cX11_forfeit 35 = .ok (.if_icmp .eq 20, 3) := by decide +kernel
theorem dX11_forfeit_38 : decode cX11_forfeit 38 = .ok (.aload_n 0, 1) := by decide +kernel
theorem dX11_forfeit_39 : decode cX11_forfeit 39 = .ok (.getfield 10, 3) := by decide +kernel
theorem dX11_forfeit_42 : decode cX11_forfeit 42 = .ok (.getfield 66, 3) := by decide +kernel
theorem dX11_forfeit_45 : decode cX11_forfeit 45 = .ok (.aload_n 2, 1) := by decide +kernel
theorem dX11_forfeit_46 : decode cX11_forfeit 46 = .ok (.getfield 169, 3) := by decide +kernel
theorem dX11_forfeit_49 : decode cX11_forfeit 49 = .ok (.isub, 1) := by decide +kernel
theorem dX11_forfeit_50 : decode cX11_forfeit 50 = .ok (.bipush 30, 2) := by decide +kernel
theorem dX11_forfeit_52 : decode cX11_forfeit 52 = .ok (.if_icmp .ge 6, 3) := by decide +kernel
theorem dX11_forfeit_55 : decode cX11_forfeit 55 = .ok (.bipush (-5), 2) := by decide +kernel
theorem dX11_forfeit_57 : decode cX11_forfeit 57 = .ok (.ireturn, 1) := by decide +kernel
theorem dX11_forfeit_58 : decode cX11_forfeit 58 = .ok (.aload_n 0, 1) := by decide +kernel
theorem dX11_forfeit_59 : decode cX11_forfeit 59 = .ok (.getfield 10, 3) := by decide +kernel
theorem dX11_forfeit_62 : decode cX11_forfeit 62 = .ok (.aload_n 2, 1) := by decide +kernel
theorem dX11_forfeit_63 : decode cX11_forfeit 63 = .ok (.iconst 2, 1) := by decide +kernel
theorem dX11_forfeit_64 : decode cX11_forfeit 64 = .ok (.invokevirtual 136, 3) := by decide +kernel
theorem dX11_forfeit_67 : decode cX11_forfeit 67 = .ok (.aload_n 0, 1) := by decide +kernel
theorem dX11_forfeit_68 : decode cX11_forfeit 68 = .ok (.getfield 10, 3) := by decide +kernel
theorem dX11_forfeit_71 : decode cX11_forfeit 71 = .ok (.aload_n 2, 1) := by decide +kernel
theorem dX11_forfeit_72 : decode cX11_forfeit 72 = .ok (.aload_n 2, 1) := by decide +kernel
theorem dX11_forfeit_73 : decode cX11_forfeit 73 = .ok (.invokevirtual 405, 3) := by decide +kernel
theorem dX11_forfeit_76 : decode cX11_forfeit 76 = .ok (.ireturn, 1) := by decide +kernel
def vc_X11_forfeit (l0 : Nat) (l1 : Int32) (M : mj_M) (post : Int32 → mj_M → Prop) : Prop := mj_tag M l0 = 12 ∧ mj_tag M (mj_r M l0 0) = 5 ∧ vc_X4_findLease (mj_r M l0 0) l1 M (fun r3 M4 => if r3 = 0 then (post ((-1)) M4) else (mj_tag M4 l0 = 12 ∧ mj_tag M4 (mj_r M4 l0 0) = 5 ∧ vc_X4_isInForce (mj_r M4 l0 0) r3 M4 (fun r8 M9 => if r8 = true then (mj_tag M9 r3 = 4 ∧ if (mj_i M9 r3 12) = ((-6)) then (post ((-5)) M9) else (mj_tag M9 l0 = 12 ∧ mj_tag M9 (mj_r M9 l0 0) = 5 ∧ if 30 ≤ ((mj_i M9 (mj_r M9 l0 0) 0) - (mj_i M9 r3 12)) then (vc_X4_close (mj_r M9 l0 0) r3 2 M9 (fun _ M16 => mj_tag M16 l0 = 12 ∧ mj_tag M16 (mj_r M16 l0 0) = 5 ∧ vc_X4_letFall (mj_r M16 l0 0) r3 r3 M16 (fun r19 M20 => post r19 M20))) else (post ((-5)) M9))) else (post ((-3)) M9))))
set_option maxHeartbeats 4000000 in
set_option maxRecDepth 100000 in
theorem ct_X11_forfeit {l : Launch} {base : Nat} {D : va_G} {A : ClassId × ClassId × ClassId} (l0 : Nat) (l1 : Int32) (M : mj_M) (post : Int32 → mj_M → Prop) (h : vc_X11_forfeit l0 l1 M post) : mj_Met l base D A mj_jI yX11_forfeit cX11_forfeit 3 (some .int) rm_X11_forfeit 0 0 [vR l0, vI l1] M post := by
  refine mj_entry (by decide +kernel) (Nat.le_of_ble_eq_true rfl) (fun g hC hE h1 h2 h3 h4 => ?_)
  show mj_X g 0 [(0, vR l0), (1, vI l1)] [] M 0 0
  simp only [vc_X11_forfeit] at h
  refine mx_aload_n (j := 0) hC dX11_forfeit_0 rfl rfl ?_
  obtain ⟨ht1, h⟩ := h
  refine mx_get (v := vR (mj_r M l0 0)) hC tf_X11_10 ht1 rfl dX11_forfeit_1 ?_
  refine mx_iload_n (j := 1) hC dX11_forfeit_4 rfl rfl ?_
  obtain ⟨ht2, h⟩ := h
  refine mx_callV (inj := mj_jR) (As := [vI l1]) (st := []) hC (ct_X4_findLease (mj_r M l0 0) l1 M _ h) ty_X4_findLease tw470 ht2 rfl (Nat.le_of_ble_eq_true rfl) ⟨rfl, rfl, ⟨by decide, by decide⟩, by decide, by decide⟩ dX11_forfeit_5 (fun r3 M4 h => ?_)
  show mj_X g 8 [(0, vR l0), (1, vI l1)] [vR r3] M4 0 0
  refine mx_astore_n (L' := [(2, vR r3), (0, vR l0), (1, vI l1)]) hC dX11_forfeit_8 rfl (by decide) rfl ?_
  refine mx_aload_n (j := 0) hC dX11_forfeit_9 rfl rfl ?_
  refine mx_ifnonnull (tgt := 15) hC dX11_forfeit_10 (by decide) (fun hc5 => ?_) (fun hc5 => ?_)
  · replace h := mj_nn hc5 h
    refine mx_aload_n (j := 1) hC dX11_forfeit_15 rfl rfl ?_
    obtain ⟨ht6, h⟩ := h
    refine mx_get (v := vR (mj_r M4 l0 0)) hC tf_X11_10 ht6 rfl dX11_forfeit_16 ?_
    refine mx_aload_n (j := 0) hC dX11_forfeit_19 rfl rfl ?_
    obtain ⟨ht7, h⟩ := h
    refine mx_callV (inj := mj_jB) (As := [vR r3]) (st := []) hC (ct_X4_isInForce (mj_r M4 l0 0) r3 M4 _ h) ty_X4_isInForce tw458 ht7 rfl (Nat.le_of_ble_eq_true rfl) ⟨rfl, rfl, ⟨by decide, by decide⟩, by decide, by decide⟩ dX11_forfeit_20 (fun r8 M9 h => ?_)
    show mj_X g 23 [(2, vR r3), (0, vR l0), (1, vI l1)] [vI (mj_b r8)] M9 0 0
    refine mx_ifneB (tgt := 29) hC dX11_forfeit_23 (by decide) (fun hc10 => ?_) (fun hc10 => ?_)
    · replace h := mj_yy hc10 h
      refine mx_aload_n (j := 0) hC dX11_forfeit_29 rfl rfl ?_
      obtain ⟨ht11, h⟩ := h
      refine mx_get (v := vI (mj_i M9 r3 12)) hC tf_X11_169 ht11 rfl dX11_forfeit_30 ?_
      refine mx_bipush (v := (-6)) hC dX11_forfeit_33 (by decide) ?_
      refine mx_icmpeq (tgt := 55) hC dX11_forfeit_35 (by decide) (fun hc12 => ?_) (fun hc12 => ?_)
      · replace h := mj_yy hc12 h
        refine mx_bipush (v := (-5)) hC dX11_forfeit_55 (by decide) ?_
        exact mx_iret hC hE rfl dX11_forfeit_57 h
      · replace h := mj_nn hc12 h
        refine mx_aload_n (j := 1) hC dX11_forfeit_38 rfl rfl ?_
        obtain ⟨ht13, h⟩ := h
        refine mx_get (v := vR (mj_r M9 l0 0)) hC tf_X11_10 ht13 rfl dX11_forfeit_39 ?_
        obtain ⟨ht14, h⟩ := h
        refine mx_get (v := vI (mj_i M9 (mj_r M9 l0 0) 0)) hC tf_X11_66 ht14 rfl dX11_forfeit_42 ?_
        refine mx_aload_n (j := 0) hC dX11_forfeit_45 rfl rfl ?_
        refine mx_get (v := vI (mj_i M9 r3 12)) hC tf_X11_169 ht11 rfl dX11_forfeit_46 ?_
        refine mx_isub hC dX11_forfeit_49 ?_
        refine mx_bipush (v := 30) hC dX11_forfeit_50 (by decide) ?_
        refine mx_icmpge (tgt := 58) hC dX11_forfeit_52 (by decide) (fun hc15 => ?_) (fun hc15 => ?_)
        · replace h := mj_yy hc15 h
          refine mx_aload_n (j := 1) hC dX11_forfeit_58 rfl rfl ?_
          refine mx_get (v := vR (mj_r M9 l0 0)) hC tf_X11_10 ht13 rfl dX11_forfeit_59 ?_
          refine mx_aload_n (j := 0) hC dX11_forfeit_62 rfl rfl ?_
          refine mx_iconst (v := 2) hC dX11_forfeit_63 (by decide) ?_
          refine mx_callV (inj := mj_jV) (As := [vR r3, vI 2]) (st := []) hC (ct_X4_close (mj_r M9 l0 0) r3 2 M9 _ h) ty_X4_close tw494 ht14 rfl (Nat.le_of_ble_eq_true rfl) ⟨rfl, rfl, ⟨by decide, by decide⟩, by decide, by decide⟩ dX11_forfeit_64 (fun _ M16 h => ?_)
          show mj_X g 67 [(2, vR r3), (0, vR l0), (1, vI l1)] [] M16 0 0
          refine mx_aload_n (j := 1) hC dX11_forfeit_67 rfl rfl ?_
          obtain ⟨ht17, h⟩ := h
          refine mx_get (v := vR (mj_r M16 l0 0)) hC tf_X11_10 ht17 rfl dX11_forfeit_68 ?_
          refine mx_aload_n (j := 0) hC dX11_forfeit_71 rfl rfl ?_
          refine mx_aload_n (j := 0) hC dX11_forfeit_72 rfl rfl ?_
          obtain ⟨ht18, h⟩ := h
          refine mx_callV (inj := mj_jI) (As := [vR r3, vR r3]) (st := []) hC (ct_X4_letFall (mj_r M16 l0 0) r3 r3 M16 _ h) ty_X4_letFall tw1143 ht18 rfl (Nat.le_of_ble_eq_true rfl) ⟨rfl, rfl, ⟨by decide, by decide⟩, by decide, by decide⟩ dX11_forfeit_73 (fun r19 M20 h => ?_)
          show mj_X g 76 [(2, vR r3), (0, vR l0), (1, vI l1)] [vI r19] M20 0 0
          exact mx_iret hC hE rfl dX11_forfeit_76 h
        · replace h := mj_nn hc15 h
          refine mx_bipush (v := (-5)) hC dX11_forfeit_55 (by decide) ?_
          exact mx_iret hC hE rfl dX11_forfeit_57 h
    · replace h := mj_nn hc10 h
      refine mx_bipush (v := (-3)) hC dX11_forfeit_26 (by decide) ?_
      exact mx_iret hC hE rfl dX11_forfeit_28 h
  · replace h := mj_yy hc5 h
    refine mx_iconst (v := (-1)) hC dX11_forfeit_13 (by decide) ?_
    exact mx_iret hC hE rfl dX11_forfeit_14 h
theorem tw340 : (Jvm.Cond.fieldLink "LeaseLand" (408 : Nat) "LeaseLand$Holding" "ended" "I") ∈ mj_tbl := mj_w 393 (by decide +kernel) (by decide +kernel)
theorem tf_X11_408 : mj_F 3 7 .int false "LeaseLand" 408 := ⟨_, tk3, by decide, rfl, rfl, rfl, tw340⟩
theorem tw1148 : (Jvm.Cond.methodLink "LeaseLand" (411 : Nat) ({ cls := "LeaseLand$Land", name := "canStandAgain", desc := "(LLeaseLand$Holding;)Z" } : Jvm.MethodName)) ∈ mj_tbl := mj_w 1201 (by decide +kernel) (by decide +kernel)
theorem tw1153 : (Jvm.Cond.methodLink "LeaseLand" (414 : Nat) ({ cls := "LeaseLand$Land", name := "standAgain", desc := "(LLeaseLand$Holding;)I" } : Jvm.MethodName)) ∈ mj_tbl := mj_w 1206 (by decide +kernel) (by decide +kernel)
theorem tw1151 : (Jvm.Cond.code ({ cls := "LeaseLand$Land", name := "canStandAgain", desc := "(LLeaseLand$Holding;)Z" } : Jvm.MethodName) prog_6_method_22_code (4 : Nat) (Option.some Jvm.ClassFile.FieldType.boolean)) ∈ mj_tbl := mj_w 1204 (by decide +kernel) (by decide +kernel)
theorem tw1149 : (Jvm.Cond.instanceMethod ({ cls := "LeaseLand$Land", name := "canStandAgain", desc := "(LLeaseLand$Holding;)Z" } : Jvm.MethodName)) ∈ mj_tbl := mj_w 1202 (by decide +kernel) (by decide +kernel)
theorem tw1150 : (Jvm.Cond.selects "LeaseLand$Land" ({ cls := "LeaseLand$Land", name := "canStandAgain", desc := "(LLeaseLand$Holding;)Z" } : Jvm.MethodName) ({ cls := "LeaseLand$Land", name := "canStandAgain", desc := "(LLeaseLand$Holding;)Z" } : Jvm.MethodName)) ∈ mj_tbl := mj_w 1203 (by decide +kernel) (by decide +kernel)
theorem ty_X4_canStandAgain : mj_YV 4 yX4_canStandAgain cX4_canStandAgain 4 (some .boolean) 1 := ⟨⟨tw1151, tw2, by decide +kernel, by decide +kernel, by decide +kernel⟩, tw1149, tw1150, _, rfl, rfl⟩
theorem tw1156 : (Jvm.Cond.code ({ cls := "LeaseLand$Land", name := "standAgain", desc := "(LLeaseLand$Holding;)I" } : Jvm.MethodName) prog_6_method_23_code (4 : Nat) (Option.some Jvm.ClassFile.FieldType.int)) ∈ mj_tbl := mj_w 1209 (by decide +kernel) (by decide +kernel)
theorem tw1154 : (Jvm.Cond.instanceMethod ({ cls := "LeaseLand$Land", name := "standAgain", desc := "(LLeaseLand$Holding;)I" } : Jvm.MethodName)) ∈ mj_tbl := mj_w 1207 (by decide +kernel) (by decide +kernel)
theorem tw1155 : (Jvm.Cond.selects "LeaseLand$Land" ({ cls := "LeaseLand$Land", name := "standAgain", desc := "(LLeaseLand$Holding;)I" } : Jvm.MethodName) ({ cls := "LeaseLand$Land", name := "standAgain", desc := "(LLeaseLand$Holding;)I" } : Jvm.MethodName)) ∈ mj_tbl := mj_w 1208 (by decide +kernel) (by decide +kernel)
theorem ty_X4_standAgain : mj_YV 4 yX4_standAgain cX4_standAgain 4 (some .int) 1 := ⟨⟨tw1156, tw2, by decide +kernel, by decide +kernel, by decide +kernel⟩, tw1154, tw1155, _, rfl, rfl⟩
def rm_X11_relieve : Room := { frames := 5, cells := 0, slots := 0, locals := 116 }
theorem dX11_relieve_0 : decode cX11_relieve 0 = .ok (.aload_n 0, 1) := by decide +kernel
theorem dX11_relieve_1 : decode cX11_relieve 1 = .ok (.getfield 10, 3) := by decide +kernel
theorem dX11_relieve_4 : decode cX11_relieve 4 = .ok (.iload_n 1, 1) := by decide +kernel
theorem dX11_relieve_5 : decode cX11_relieve 5 = .ok (.invokevirtual 121, 3) := by decide +kernel
theorem dX11_relieve_8 : decode cX11_relieve 8 = .ok (.astore_n 2, 1) := by decide +kernel
theorem dX11_relieve_9 : decode cX11_relieve 9 = .ok (.aload_n 2, 1) := by decide +kernel
theorem dX11_relieve_10 : decode cX11_relieve 10 = .ok (.ifnonnull 5, 3) := by decide +kernel
theorem dX11_relieve_13 : decode cX11_relieve 13 = .ok (.iconst (-1), 1) := by decide +kernel
theorem dX11_relieve_14 : decode cX11_relieve 14 = .ok (.ireturn, 1) := by decide +kernel
theorem dX11_relieve_15 : decode cX11_relieve 15 = .ok (.aload_n 2, 1) := by decide +kernel
theorem dX11_relieve_16 : decode cX11_relieve 16 = .ok (.getfield 160, 3) := by decide +kernel
theorem dX11_relieve_19 : decode cX11_relieve 19 = .ok (.iconst 2, 1) := by decide +kernel
theorem dX11_relieve_20 : decode cX11_relieve 20 = .ok (.if_icmp .ne 21, 3) := by decide +kernel
theorem dX11_relieve_23 : decode cX11_relieve 23 = .ok (.aload_n 0, 1) := by decide +kernel
theorem dX11_relieve_24 : decode cX11_relieve 24 = .ok (.getfield 10, 3) := by decide +kernel
theorem dX11_relieve_27 : decode cX11_relieve 27 = .ok (.getfield 66, 3) := by decide +kernel
theorem dX11_relieve_30 : decode cX11_relieve 30 = .ok (.aload_n 2, 1) := by decide +kernel
theorem dX11_relieve_31 : decode cX11_relieve 31 = .ok (.getfield 408, 3) := by decide +kernel
theorem dX11_relieve_34 : decode cX11_relieve 34 = .ok (.isub, 1) := by decide +kernel
theorem dX11_relieve_35 : decode cX11_relieve 35 = .ok (.sipush 180, 3) := by decide +kernel
theorem dX11_relieve_38 : decode cX11_relieve 38 = .ok (.if_icmp .le 6, 3) := by decide +kernel
theorem dX11_relieve_41 : decode cX11_relieve 41 = .ok (.bipush (-3), 2) := by decide +kernel
theorem dX11_relieve_43 : decode cX11_relieve 43 = .ok (.ireturn, 1) := by decide +kernel
theorem dX11_relieve_44 : decode cX11_relieve 44 = .ok (.aload_n 0, 1) := by decide +kernel
theorem dX11_relieve_45 : decode cX11_relieve 45 = .ok (.getfield 10, 3) := by decide +kernel
theorem dX11_relieve_48 : decode cX11_relieve 48 = .ok (.aload_n 2, 1) := by decide +kernel
theorem dX11_relieve_49 : decode cX11_relieve 49 = .ok (.invokevirtual 411, 3) := by decide +kernel
theorem dX11_relieve_52 : decode cX11_relieve 52 = .ok (.ifCond .eq 14, 3) := by decide +kernel
theorem dX11_relieve_55 : decode cX11_relieve 55 = .ok (.aload_n 0, 1) := by decide +kernel
theorem dX11_relieve_56 : decode cX11_relieve 56 = .ok (.getfield 10, 3) := by decide +kernel
theorem dX11_relieve_59 : decode cX11_relieve 59 = .ok (.aload_n 2, 1) := by decide +kernel
theorem dX11_relieve_60 : decode cX11_relieve 60 = .ok (.invokevirtual 414, 3) := by decide +kernel
theorem dX11_relieve_63 : decode cX11_relieve 63 = .ok (.goto 5, 3) := by decide +kernel
theorem dX11_relieve_66 : decode cX11_relieve 66 = .ok (.bipush (-5), 2) := by decide +kernel
theorem dX11_relieve_68 : decode cX11_relieve 68 = .ok (.ireturn, 1) := by decide +kernel
def vc_X11_relieve (l0 : Nat) (l1 : Int32) (M : mj_M) (post : Int32 → mj_M → Prop) : Prop := mj_tag M l0 = 12 ∧ mj_tag M (mj_r M l0 0) = 5 ∧ vc_X4_findLease (mj_r M l0 0) l1 M (fun r3 M4 => if r3 = 0 then (post ((-1)) M4) else (mj_tag M4 r3 = 4 ∧ if (mj_i M4 r3 6) = 2 then (mj_tag M4 l0 = 12 ∧ mj_tag M4 (mj_r M4 l0 0) = 5 ∧ if ((mj_i M4 (mj_r M4 l0 0) 0) - (mj_i M4 r3 7)) ≤ 180 then (vc_X4_canStandAgain (mj_r M4 l0 0) r3 M4 (fun r11 M12 => if r11 = true then (mj_tag M12 l0 = 12 ∧ mj_tag M12 (mj_r M12 l0 0) = 5 ∧ vc_X4_standAgain (mj_r M12 l0 0) r3 M12 (fun r16 M17 => post r16 M17)) else (post ((-5)) M12))) else (post ((-3)) M4)) else (post ((-3)) M4)))
set_option maxHeartbeats 4000000 in
set_option maxRecDepth 100000 in
theorem ct_X11_relieve {l : Launch} {base : Nat} {D : va_G} {A : ClassId × ClassId × ClassId} (l0 : Nat) (l1 : Int32) (M : mj_M) (post : Int32 → mj_M → Prop) (h : vc_X11_relieve l0 l1 M post) : mj_Met l base D A mj_jI yX11_relieve cX11_relieve 3 (some .int) rm_X11_relieve 0 0 [vR l0, vI l1] M post := by
  refine mj_entry (by decide +kernel) (Nat.le_of_ble_eq_true rfl) (fun g hC hE h1 h2 h3 h4 => ?_)
  show mj_X g 0 [(0, vR l0), (1, vI l1)] [] M 0 0
  simp only [vc_X11_relieve] at h
  refine mx_aload_n (j := 0) hC dX11_relieve_0 rfl rfl ?_
  obtain ⟨ht1, h⟩ := h
  refine mx_get (v := vR (mj_r M l0 0)) hC tf_X11_10 ht1 rfl dX11_relieve_1 ?_
  refine mx_iload_n (j := 1) hC dX11_relieve_4 rfl rfl ?_
  obtain ⟨ht2, h⟩ := h
  refine mx_callV (inj := mj_jR) (As := [vI l1]) (st := []) hC (ct_X4_findLease (mj_r M l0 0) l1 M _ h) ty_X4_findLease tw470 ht2 rfl (Nat.le_of_ble_eq_true rfl) ⟨rfl, rfl, ⟨by decide, by decide⟩, by decide, by decide⟩ dX11_relieve_5 (fun r3 M4 h => ?_)
  show mj_X g 8 [(0, vR l0), (1, vI l1)] [vR r3] M4 0 0
  refine mx_astore_n (L' := [(2, vR r3), (0, vR l0), (1, vI l1)]) hC dX11_relieve_8 rfl (by decide) rfl ?_
  refine mx_aload_n (j := 0) hC dX11_relieve_9 rfl rfl ?_
  refine mx_ifnonnull (tgt := 15) hC dX11_relieve_10 (by decide) (fun hc5 => ?_) (fun hc5 => ?_)
  · replace h := mj_nn hc5 h
    refine mx_aload_n (j := 0) hC dX11_relieve_15 rfl rfl ?_
    obtain ⟨ht6, h⟩ := h
    refine mx_get (v := vI (mj_i M4 r3 6)) hC tf_X11_160 ht6 rfl dX11_relieve_16 ?_
    refine mx_iconst (v := 2) hC dX11_relieve_19 (by decide) ?_
    refine mx_icmpne (tgt := 41) hC dX11_relieve_20 (by decide) (fun hc7 => ?_) (fun hc7 => ?_)
    · replace h := mj_nn hc7 h
      refine mx_bipush (v := (-3)) hC dX11_relieve_41 (by decide) ?_
      exact mx_iret hC hE rfl dX11_relieve_43 h
    · replace h := mj_yy hc7 h
      refine mx_aload_n (j := 1) hC dX11_relieve_23 rfl rfl ?_
      obtain ⟨ht8, h⟩ := h
      refine mx_get (v := vR (mj_r M4 l0 0)) hC tf_X11_10 ht8 rfl dX11_relieve_24 ?_
      obtain ⟨ht9, h⟩ := h
      refine mx_get (v := vI (mj_i M4 (mj_r M4 l0 0) 0)) hC tf_X11_66 ht9 rfl dX11_relieve_27 ?_
      refine mx_aload_n (j := 0) hC dX11_relieve_30 rfl rfl ?_
      refine mx_get (v := vI (mj_i M4 r3 7)) hC tf_X11_408 ht6 rfl dX11_relieve_31 ?_
      refine mx_isub hC dX11_relieve_34 ?_
      refine mx_sipush (v := 180) hC dX11_relieve_35 (by decide) ?_
      refine mx_icmple (tgt := 44) hC dX11_relieve_38 (by decide) (fun hc10 => ?_) (fun hc10 => ?_)
      · replace h := mj_yy hc10 h
        refine mx_aload_n (j := 1) hC dX11_relieve_44 rfl rfl ?_
        refine mx_get (v := vR (mj_r M4 l0 0)) hC tf_X11_10 ht8 rfl dX11_relieve_45 ?_
        refine mx_aload_n (j := 0) hC dX11_relieve_48 rfl rfl ?_
        refine mx_callV (inj := mj_jB) (As := [vR r3]) (st := []) hC (ct_X4_canStandAgain (mj_r M4 l0 0) r3 M4 _ h) ty_X4_canStandAgain tw1148 ht9 rfl (Nat.le_of_ble_eq_true rfl) ⟨rfl, rfl, ⟨by decide, by decide⟩, by decide, by decide⟩ dX11_relieve_49 (fun r11 M12 h => ?_)
        show mj_X g 52 [(2, vR r3), (0, vR l0), (1, vI l1)] [vI (mj_b r11)] M12 0 0
        refine mx_ifeqB (tgt := 66) hC dX11_relieve_52 (by decide) (fun hc13 => ?_) (fun hc13 => ?_)
        · replace h := mj_nn hc13 h
          refine mx_bipush (v := (-5)) hC dX11_relieve_66 (by decide) ?_
          exact mx_iret hC hE rfl dX11_relieve_68 h
        · replace h := mj_yy hc13 h
          refine mx_aload_n (j := 1) hC dX11_relieve_55 rfl rfl ?_
          obtain ⟨ht14, h⟩ := h
          refine mx_get (v := vR (mj_r M12 l0 0)) hC tf_X11_10 ht14 rfl dX11_relieve_56 ?_
          refine mx_aload_n (j := 0) hC dX11_relieve_59 rfl rfl ?_
          obtain ⟨ht15, h⟩ := h
          refine mx_callV (inj := mj_jI) (As := [vR r3]) (st := []) hC (ct_X4_standAgain (mj_r M12 l0 0) r3 M12 _ h) ty_X4_standAgain tw1153 ht15 rfl (Nat.le_of_ble_eq_true rfl) ⟨rfl, rfl, ⟨by decide, by decide⟩, by decide, by decide⟩ dX11_relieve_60 (fun r16 M17 h => ?_)
          show mj_X g 63 [(2, vR r3), (0, vR l0), (1, vI l1)] [vI r16] M17 0 0
          refine mx_goto (tgt := 68) hC dX11_relieve_63 (by decide) ?_
          exact mx_iret hC hE rfl dX11_relieve_68 h
      · replace h := mj_nn hc10 h
        refine mx_bipush (v := (-3)) hC dX11_relieve_41 (by decide) ?_
        exact mx_iret hC hE rfl dX11_relieve_43 h
  · replace h := mj_yy hc5 h
    refine mx_iconst (v := (-1)) hC dX11_relieve_13 (by decide) ?_
    exact mx_iret hC hE rfl dX11_relieve_14 h
def rm_X11_isName : Room := { frames := 0, cells := 0, slots := 0, locals := 0 }
theorem dX11_isName_0 : decode cX11_isName 0 = .ok (.iload_n 0, 1) := by decide +kernel
theorem dX11_isName_1 : decode cX11_isName 1 = .ok (.ifCond .lt 13, 3) := by decide +kernel
theorem dX11_isName_4 : decode cX11_isName 4 = .ok (.iload_n 0, 1) := by decide +kernel
theorem dX11_isName_5 : decode cX11_isName 5 = .ok (.bipush 9, 2) := by decide +kernel
theorem dX11_isName_7 : decode cX11_isName 7 = .ok (.if_icmp .gt 7, 3) := by decide +kernel
theorem dX11_isName_10 : decode cX11_isName 10 = .ok (.iconst 1, 1) := by decide +kernel
theorem dX11_isName_11 : decode cX11_isName 11 = .ok (.goto 4, 3) := by decide +kernel
theorem dX11_isName_14 : decode cX11_isName 14 = .ok (.iconst 0, 1) := by decide +kernel
theorem dX11_isName_15 : decode cX11_isName 15 = .ok (.ireturn, 1) := by decide +kernel
def vc_X11_isName (l0 : Int32) (M : mj_M) (post : Bool → mj_M → Prop) : Prop := if l0 < 0 then (post false M) else (if 9 < l0 then (post false M) else (post true M))
set_option maxHeartbeats 4000000 in
set_option maxRecDepth 100000 in
theorem ct_X11_isName {l : Launch} {base : Nat} {D : va_G} {A : ClassId × ClassId × ClassId} (l0 : Int32) (M : mj_M) (post : Bool → mj_M → Prop) (h : vc_X11_isName l0 M post) : mj_Met l base D A mj_jB yX11_isName cX11_isName 1 (some .boolean) rm_X11_isName 0 0 [vI l0] M post := by
  refine mj_entry (by decide +kernel) (Nat.le_of_ble_eq_true rfl) (fun g hC hE h1 h2 h3 h4 => ?_)
  show mj_X g 0 [(0, vI l0)] [] M 0 0
  simp only [vc_X11_isName] at h
  refine mx_iload_n (j := 0) hC dX11_isName_0 rfl rfl ?_
  refine mx_iflt (tgt := 14) hC dX11_isName_1 (by decide) (fun hc1 => ?_) (fun hc1 => ?_)
  · replace h := mj_yy hc1 h
    refine mx_iconst (v := 0) hC dX11_isName_14 (by decide) ?_
    exact mx_zret (b := false) hC hE rfl dX11_isName_15 h
  · replace h := mj_nn hc1 h
    refine mx_iload_n (j := 0) hC dX11_isName_4 rfl rfl ?_
    refine mx_bipush (v := 9) hC dX11_isName_5 (by decide) ?_
    refine mx_icmpgt (tgt := 14) hC dX11_isName_7 (by decide) (fun hc2 => ?_) (fun hc2 => ?_)
    · replace h := mj_yy hc2 h
      refine mx_iconst (v := 0) hC dX11_isName_14 (by decide) ?_
      exact mx_zret (b := false) hC hE rfl dX11_isName_15 h
    · replace h := mj_nn hc2 h
      refine mx_iconst (v := 1) hC dX11_isName_10 (by decide) ?_
      refine mx_goto (tgt := 15) hC dX11_isName_11 (by decide) ?_
      exact mx_zret (b := true) hC hE rfl dX11_isName_15 h
theorem tw1161 : (Jvm.Cond.methodLink "LeaseLand" (417 : Nat) ({ cls := "LeaseLand", name := "isName", desc := "(I)Z" } : Jvm.MethodName)) ∈ mj_tbl := mj_w 1214 (by decide +kernel) (by decide +kernel)
theorem tw1164 : (Jvm.Cond.methodLink "LeaseLand" (420 : Nat) ({ cls := "LeaseLand$Register", name := "add", desc := "(IIII)I" } : Jvm.MethodName)) ∈ mj_tbl := mj_w 1217 (by decide +kernel) (by decide +kernel)
theorem tw1163 : (Jvm.Cond.code ({ cls := "LeaseLand", name := "isName", desc := "(I)Z" } : Jvm.MethodName) prog_1_method_64_code (1 : Nat) (Option.some Jvm.ClassFile.FieldType.boolean)) ∈ mj_tbl := mj_w 1216 (by decide +kernel) (by decide +kernel)
theorem tw1162 : (Jvm.Cond.static ({ cls := "LeaseLand", name := "isName", desc := "(I)Z" } : Jvm.MethodName)) ∈ mj_tbl := mj_w 1215 (by decide +kernel) (by decide +kernel)
theorem ty_X11_isName : mj_YS yX11_isName cX11_isName 1 (some .boolean) 1 := ⟨⟨tw1163, tw1, by decide +kernel, by decide +kernel, by decide +kernel⟩, tw1162⟩
theorem tw1167 : (Jvm.Cond.code ({ cls := "LeaseLand$Register", name := "add", desc := "(IIII)I" } : Jvm.MethodName) prog_11_method_2_code (7 : Nat) (Option.some Jvm.ClassFile.FieldType.int)) ∈ mj_tbl := mj_w 1220 (by decide +kernel) (by decide +kernel)
theorem tw1165 : (Jvm.Cond.instanceMethod ({ cls := "LeaseLand$Register", name := "add", desc := "(IIII)I" } : Jvm.MethodName)) ∈ mj_tbl := mj_w 1218 (by decide +kernel) (by decide +kernel)
theorem tw1166 : (Jvm.Cond.selects "LeaseLand$Register" ({ cls := "LeaseLand$Register", name := "add", desc := "(IIII)I" } : Jvm.MethodName) ({ cls := "LeaseLand$Register", name := "add", desc := "(IIII)I" } : Jvm.MethodName)) ∈ mj_tbl := mj_w 1219 (by decide +kernel) (by decide +kernel)
theorem ty_X9_add : mj_YV 9 yX9_add cX9_add 7 (some .int) 4 := ⟨⟨tw1167, tw10, by decide +kernel, by decide +kernel, by decide +kernel⟩, tw1165, tw1166, _, rfl, rfl⟩
def rm_X11_line : Room := { frames := 2, cells := 0, slots := 0, locals := 50 }
theorem dX11_line_0 : decode cX11_line 0 = .ok (.iload_n 1, 1) := by decide +kernel
theorem dX11_line_1 : decode cX11_line 1 = .ok (.invokestatic 417, 3) := by decide +kernel
theorem dX11_line_4 : decode cX11_line 4 = .ok (.ifCond .eq 36, 3) := by decide +kernel
theorem dX11_line_7 : decode cX11_line 7 = .ok (.iload_n 2, 1) := by decide +kernel
theorem dX11_line_8 : decode cX11_line 8 = .ok (.invokestatic 417, 3) := by decide +kernel
theorem dX11_line_11 : decode cX11_line 11 = .ok (.ifCond .eq 29, 3) := by decide +kernel
theorem dX11_line_14 : decode cX11_line 14 = .ok (.iload_n 1, 1) := by decide +kernel
theorem dX11_line_15 : decode cX11_line 15 = .ok (.iload_n 2, 1) := by decide +kernel
theorem dX11_line_16 : decode cX11_line 16 = .ok (.if_icmp .eq 24, 3) := by decide +kernel
theorem dX11_line_19 : decode cX11_line 19 = .ok (.iload_n 3, 1) := by decide +kernel
theorem dX11_line_20 : decode cX11_line 20 = .ok (.invokestatic 62, 3) := by decide +kernel
theorem dX11_line_23 : decode cX11_line 23 = .ok (.ifCond .eq 17, 3) := by decide +kernel
theorem dX11_line_26 : decode cX11_line 26 = .ok (.iload 4, 2) := by decide +kernel
theorem dX11_line_28 : decode cX11_line 28 = .ok (.invokestatic 62, 3) := by decide +kernel
theorem dX11_line_31 : decode cX11_line 31 = .ok (.ifCond .eq 9, 3) := by decide +kernel
theorem dX11_line_34 : decode cX11_line 34 = .ok (.iload_n 3, 1) := by decide +kernel
theorem dX11_line_35 : decode cX11_line 35 = .ok (.iload 4, 2) := by decide +kernel
theorem dX11_line_37 : decode cX11_line 37 = .ok (.if_icmp .lt 6, 3) := by decide +kernel
theorem dX11_line_40 : decode cX11_line 40 = .ok (.bipush (-2), 2) := by decide +kernel
theorem dX11_line_42 : decode cX11_line 42 = .ok (.ireturn, 1) := by decide +kernel
theorem dX11_line_43 : decode cX11_line 43 = .ok (.aload_n 0, 1) := by decide +kernel
theorem dX11_line_44 : decode cX11_line 44 = .ok (.getfield 54, 3) := by decide +kernel
theorem dX11_line_47 : decode cX11_line 47 = .ok (.iload_n 1, 1) := by decide +kernel
theorem dX11_line_48 : decode cX11_line 48 = .ok (.iload_n 2, 1) := by decide +kernel
theorem dX11_line_49 : decode cX11_line 49 = .ok (.iload_n 3, 1) := by decide +kernel
theorem dX11_line_50 : decode cX11_line 50 = .ok (.iload 4, 2) := by decide +kernel
theorem dX11_line_52 : decode cX11_line 52 = .ok (.invokevirtual 420, 3) := by decide +kernel
theorem dX11_line_55 : decode cX11_line 55 = .ok (.ireturn, 1) := by decide +kernel
def vc_X11_line (l0 : Nat) (l1 : Int32) (l2 : Int32) (l3 : Int32) (l4 : Int32) (M : mj_M) (post : Int32 → mj_M → Prop) : Prop := vc_X11_isName l1 M (fun r1 M2 => if r1 = true then (vc_X11_isName l2 M2 (fun r4 M5 => if r4 = true then (if l1 = l2 then (post ((-2)) M5) else (vc_X11_isDay l3 M5 (fun r8 M9 => if r8 = true then (vc_X11_isDay l4 M9 (fun r11 M12 => if r11 = true then (if l3 < l4 then (mj_tag M12 l0 = 12 ∧ mj_tag M12 (mj_r M12 l0 6) = 10 ∧ vc_X9_add (mj_r M12 l0 6) l1 l2 l3 l4 M12 (fun r17 M18 => post r17 M18)) else (post ((-2)) M12)) else (post ((-2)) M12))) else (post ((-2)) M9)))) else (post ((-2)) M5))) else (post ((-2)) M2))
set_option maxHeartbeats 4000000 in
set_option maxRecDepth 100000 in
theorem ct_X11_line {l : Launch} {base : Nat} {D : va_G} {A : ClassId × ClassId × ClassId} (l0 : Nat) (l1 : Int32) (l2 : Int32) (l3 : Int32) (l4 : Int32) (M : mj_M) (post : Int32 → mj_M → Prop) (h : vc_X11_line l0 l1 l2 l3 l4 M post) : mj_Met l base D A mj_jI yX11_line cX11_line 5 (some .int) rm_X11_line 0 0 [vR l0, vI l1, vI l2, vI l3, vI l4] M post := by
  refine mj_entry (by decide +kernel) (Nat.le_of_ble_eq_true rfl) (fun g hC hE h1 h2 h3 h4 => ?_)
  show mj_X g 0 [(0, vR l0), (1, vI l1), (2, vI l2), (3, vI l3), (4, vI l4)] [] M 0 0
  simp only [vc_X11_line] at h
  refine mx_iload_n (j := 1) hC dX11_line_0 rfl rfl ?_
  refine mx_callS (inj := mj_jB) (As := [vI l1]) (st := []) hC (ct_X11_isName l1 M _ h) ty_X11_isName tw1161 rfl (Nat.le_of_ble_eq_true rfl) ⟨rfl, rfl, ⟨by decide, by decide⟩, by decide, by decide⟩ dX11_line_1 (fun r1 M2 h => ?_)
  show mj_X g 4 [(0, vR l0), (1, vI l1), (2, vI l2), (3, vI l3), (4, vI l4)] [vI (mj_b r1)] M2 0 0
  refine mx_ifeqB (tgt := 40) hC dX11_line_4 (by decide) (fun hc3 => ?_) (fun hc3 => ?_)
  · replace h := mj_nn hc3 h
    refine mx_bipush (v := (-2)) hC dX11_line_40 (by decide) ?_
    exact mx_iret hC hE rfl dX11_line_42 h
  · replace h := mj_yy hc3 h
    refine mx_iload_n (j := 2) hC dX11_line_7 rfl rfl ?_
    refine mx_callS (inj := mj_jB) (As := [vI l2]) (st := []) hC (ct_X11_isName l2 M2 _ h) ty_X11_isName tw1161 rfl (Nat.le_of_ble_eq_true rfl) ⟨rfl, rfl, ⟨by decide, by decide⟩, by decide, by decide⟩ dX11_line_8 (fun r4 M5 h => ?_)
    show mj_X g 11 [(0, vR l0), (1, vI l1), (2, vI l2), (3, vI l3), (4, vI l4)] [vI (mj_b r4)] M5 0 0
    refine mx_ifeqB (tgt := 40) hC dX11_line_11 (by decide) (fun hc6 => ?_) (fun hc6 => ?_)
    · replace h := mj_nn hc6 h
      refine mx_bipush (v := (-2)) hC dX11_line_40 (by decide) ?_
      exact mx_iret hC hE rfl dX11_line_42 h
    · replace h := mj_yy hc6 h
      refine mx_iload_n (j := 1) hC dX11_line_14 rfl rfl ?_
      refine mx_iload_n (j := 2) hC dX11_line_15 rfl rfl ?_
      refine mx_icmpeq (tgt := 40) hC dX11_line_16 (by decide) (fun hc7 => ?_) (fun hc7 => ?_)
      · replace h := mj_yy hc7 h
        refine mx_bipush (v := (-2)) hC dX11_line_40 (by decide) ?_
        exact mx_iret hC hE rfl dX11_line_42 h
      · replace h := mj_nn hc7 h
        refine mx_iload_n (j := 3) hC dX11_line_19 rfl rfl ?_
        refine mx_callS (inj := mj_jB) (As := [vI l3]) (st := []) hC (ct_X11_isDay l3 M5 _ h) ty_X11_isDay tw290 rfl (Nat.le_of_ble_eq_true rfl) ⟨rfl, rfl, ⟨by decide, by decide⟩, by decide, by decide⟩ dX11_line_20 (fun r8 M9 h => ?_)
        show mj_X g 23 [(0, vR l0), (1, vI l1), (2, vI l2), (3, vI l3), (4, vI l4)] [vI (mj_b r8)] M9 0 0
        refine mx_ifeqB (tgt := 40) hC dX11_line_23 (by decide) (fun hc10 => ?_) (fun hc10 => ?_)
        · replace h := mj_nn hc10 h
          refine mx_bipush (v := (-2)) hC dX11_line_40 (by decide) ?_
          exact mx_iret hC hE rfl dX11_line_42 h
        · replace h := mj_yy hc10 h
          refine mx_iload (j := 4) hC dX11_line_26 rfl ?_
          refine mx_callS (inj := mj_jB) (As := [vI l4]) (st := []) hC (ct_X11_isDay l4 M9 _ h) ty_X11_isDay tw290 rfl (Nat.le_of_ble_eq_true rfl) ⟨rfl, rfl, ⟨by decide, by decide⟩, by decide, by decide⟩ dX11_line_28 (fun r11 M12 h => ?_)
          show mj_X g 31 [(0, vR l0), (1, vI l1), (2, vI l2), (3, vI l3), (4, vI l4)] [vI (mj_b r11)] M12 0 0
          refine mx_ifeqB (tgt := 40) hC dX11_line_31 (by decide) (fun hc13 => ?_) (fun hc13 => ?_)
          · replace h := mj_nn hc13 h
            refine mx_bipush (v := (-2)) hC dX11_line_40 (by decide) ?_
            exact mx_iret hC hE rfl dX11_line_42 h
          · replace h := mj_yy hc13 h
            refine mx_iload_n (j := 3) hC dX11_line_34 rfl rfl ?_
            refine mx_iload (j := 4) hC dX11_line_35 rfl ?_
            refine mx_icmplt (tgt := 43) hC dX11_line_37 (by decide) (fun hc14 => ?_) (fun hc14 => ?_)
            · replace h := mj_yy hc14 h
              refine mx_aload_n (j := 0) hC dX11_line_43 rfl rfl ?_
              obtain ⟨ht15, h⟩ := h
              refine mx_get (v := vR (mj_r M12 l0 6)) hC tf_X11_54 ht15 rfl dX11_line_44 ?_
              refine mx_iload_n (j := 1) hC dX11_line_47 rfl rfl ?_
              refine mx_iload_n (j := 2) hC dX11_line_48 rfl rfl ?_
              refine mx_iload_n (j := 3) hC dX11_line_49 rfl rfl ?_
              refine mx_iload (j := 4) hC dX11_line_50 rfl ?_
              obtain ⟨ht16, h⟩ := h
              refine mx_callV (inj := mj_jI) (As := [vI l1, vI l2, vI l3, vI l4]) (st := []) hC (ct_X9_add (mj_r M12 l0 6) l1 l2 l3 l4 M12 _ h) ty_X9_add tw1164 ht16 rfl (Nat.le_of_ble_eq_true rfl) ⟨rfl, rfl, ⟨by decide, by decide⟩, by decide, by decide⟩ dX11_line_52 (fun r17 M18 h => ?_)
              show mj_X g 55 [(0, vR l0), (1, vI l1), (2, vI l2), (3, vI l3), (4, vI l4)] [vI r17] M18 0 0
              exact mx_iret hC hE rfl dX11_line_55 h
            · replace h := mj_nn hc14 h
              refine mx_bipush (v := (-2)) hC dX11_line_40 (by decide) ?_
              exact mx_iret hC hE rfl dX11_line_42 h
theorem tw1176 : (Jvm.Cond.methodLink "LeaseLand" (423 : Nat) ({ cls := "LeaseLand$Register", name := "all", desc := "()I" } : Jvm.MethodName)) ∈ mj_tbl := mj_w 1229 (by decide +kernel) (by decide +kernel)
theorem tw1180 : (Jvm.Cond.methodLink "LeaseLand" (426 : Nat) ({ cls := "LeaseLand$Register", name := "canBe", desc := "(I)Z" } : Jvm.MethodName)) ∈ mj_tbl := mj_w 1233 (by decide +kernel) (by decide +kernel)
def rm_X11_can : Room := { frames := 2, cells := 0, slots := 0, locals := 47 }
theorem dX11_can_0 : decode cX11_can 0 = .ok (.iload_n 1, 1) := by decide +kernel
theorem dX11_can_1 : decode cX11_can 1 = .ok (.ifCond .lt 14, 3) := by decide +kernel
theorem dX11_can_4 : decode cX11_can 4 = .ok (.iload_n 1, 1) := by decide +kernel
theorem dX11_can_5 : decode cX11_can 5 = .ok (.aload_n 0, 1) := by decide +kernel
theorem dX11_can_6 : decode cX11_can 6 = .ok (.getfield 54, 3) := by decide +kernel
theorem dX11_can_9 : decode cX11_can 9 = .ok (.invokevirtual 423, 3) := by decide +kernel
theorem dX11_can_12 : decode cX11_can 12 = .ok (.if_icmp .le 6, 3) := by decide +kernel
theorem dX11_can_15 : decode cX11_can 15 = .ok (.bipush (-2), 2) := by decide +kernel
theorem dX11_can_17 : decode cX11_can 17 = .ok (.ireturn, 1) := by decide +kernel
theorem dX11_can_18 : decode cX11_can 18 = .ok (.aload_n 0, 1) := by decide +kernel
theorem dX11_can_19 : decode cX11_can 19 = .ok (.getfield 54, 3) := by decide +kernel
theorem dX11_can_22 : decode cX11_can 22 = .ok (.iload_n 1, 1) := by decide +kernel
theorem dX11_can_23 : decode cX11_can 23 = .ok (.invokevirtual 426, 3) := by decide +kernel
theorem dX11_can_26 : decode cX11_can 26 = .ok (.ifCond .eq 7, 3) := by decide +kernel
theorem dX11_can_29 : decode cX11_can 29 = .ok (.iconst 1, 1) := by decide +kernel
theorem dX11_can_30 : decode cX11_can 30 = .ok (.goto 4, 3) := by decide +kernel
theorem dX11_can_33 : decode cX11_can 33 = .ok (.iconst 0, 1) := by decide +kernel
theorem dX11_can_34 : decode cX11_can 34 = .ok (.ireturn, 1) := by decide +kernel
def vc_X11_can (l0 : Nat) (l1 : Int32) (M : mj_M) (post : Int32 → mj_M → Prop) : Prop := if l1 < 0 then (post ((-2)) M) else (mj_tag M l0 = 12 ∧ mj_tag M (mj_r M l0 6) = 10 ∧ vc_X9_all (mj_r M l0 6) M (fun r4 M5 => if l1 ≤ r4 then (mj_tag M5 l0 = 12 ∧ mj_tag M5 (mj_r M5 l0 6) = 10 ∧ vc_X9_canBe (mj_r M5 l0 6) l1 M5 (fun r9 M10 => if r9 = true then (post 1 M10) else (post 0 M10))) else (post ((-2)) M5)))
set_option maxHeartbeats 4000000 in
set_option maxRecDepth 100000 in
theorem ct_X11_can {l : Launch} {base : Nat} {D : va_G} {A : ClassId × ClassId × ClassId} (l0 : Nat) (l1 : Int32) (M : mj_M) (post : Int32 → mj_M → Prop) (h : vc_X11_can l0 l1 M post) : mj_Met l base D A mj_jI yX11_can cX11_can 2 (some .int) rm_X11_can 0 0 [vR l0, vI l1] M post := by
  refine mj_entry (by decide +kernel) (Nat.le_of_ble_eq_true rfl) (fun g hC hE h1 h2 h3 h4 => ?_)
  show mj_X g 0 [(0, vR l0), (1, vI l1)] [] M 0 0
  simp only [vc_X11_can] at h
  refine mx_iload_n (j := 1) hC dX11_can_0 rfl rfl ?_
  refine mx_iflt (tgt := 15) hC dX11_can_1 (by decide) (fun hc1 => ?_) (fun hc1 => ?_)
  · replace h := mj_yy hc1 h
    refine mx_bipush (v := (-2)) hC dX11_can_15 (by decide) ?_
    exact mx_iret hC hE rfl dX11_can_17 h
  · replace h := mj_nn hc1 h
    refine mx_iload_n (j := 1) hC dX11_can_4 rfl rfl ?_
    refine mx_aload_n (j := 0) hC dX11_can_5 rfl rfl ?_
    obtain ⟨ht2, h⟩ := h
    refine mx_get (v := vR (mj_r M l0 6)) hC tf_X11_54 ht2 rfl dX11_can_6 ?_
    obtain ⟨ht3, h⟩ := h
    refine mx_callV (inj := mj_jI) (As := []) (st := [vI l1]) hC (ct_X9_all (mj_r M l0 6) M _ h) ty_X9_all tw1176 ht3 rfl (Nat.le_of_ble_eq_true rfl) ⟨rfl, rfl, ⟨by decide, by decide⟩, by decide, by decide⟩ dX11_can_9 (fun r4 M5 h => ?_)
    show mj_X g 12 [(0, vR l0), (1, vI l1)] [vI r4, vI l1] M5 0 0
    refine mx_icmple (tgt := 18) hC dX11_can_12 (by decide) (fun hc6 => ?_) (fun hc6 => ?_)
    · replace h := mj_yy hc6 h
      refine mx_aload_n (j := 0) hC dX11_can_18 rfl rfl ?_
      obtain ⟨ht7, h⟩ := h
      refine mx_get (v := vR (mj_r M5 l0 6)) hC tf_X11_54 ht7 rfl dX11_can_19 ?_
      refine mx_iload_n (j := 1) hC dX11_can_22 rfl rfl ?_
      obtain ⟨ht8, h⟩ := h
      refine mx_callV (inj := mj_jB) (As := [vI l1]) (st := []) hC (ct_X9_canBe (mj_r M5 l0 6) l1 M5 _ h) ty_X9_canBe tw1180 ht8 rfl (Nat.le_of_ble_eq_true rfl) ⟨rfl, rfl, ⟨by decide, by decide⟩, by decide, by decide⟩ dX11_can_23 (fun r9 M10 h => ?_)
      show mj_X g 26 [(0, vR l0), (1, vI l1)] [vI (mj_b r9)] M10 0 0
      refine mx_ifeqB (tgt := 33) hC dX11_can_26 (by decide) (fun hc11 => ?_) (fun hc11 => ?_)
      · replace h := mj_nn hc11 h
        refine mx_iconst (v := 0) hC dX11_can_33 (by decide) ?_
        exact mx_iret hC hE rfl dX11_can_34 h
      · replace h := mj_yy hc11 h
        refine mx_iconst (v := 1) hC dX11_can_29 (by decide) ?_
        refine mx_goto (tgt := 34) hC dX11_can_30 (by decide) ?_
        exact mx_iret hC hE rfl dX11_can_34 h
    · replace h := mj_nn hc6 h
      refine mx_bipush (v := (-2)) hC dX11_can_15 (by decide) ?_
      exact mx_iret hC hE rfl dX11_can_17 h
theorem tw1192 : (Jvm.Cond.methodLink "LeaseLand" (429 : Nat) ({ cls := "LeaseLand$Register", name := "fewestDoubted", desc := "()I" } : Jvm.MethodName)) ∈ mj_tbl := mj_w 1245 (by decide +kernel) (by decide +kernel)
theorem tw1195 : (Jvm.Cond.code ({ cls := "LeaseLand$Register", name := "fewestDoubted", desc := "()I" } : Jvm.MethodName) prog_11_method_7_code (4 : Nat) (Option.some Jvm.ClassFile.FieldType.int)) ∈ mj_tbl := mj_w 1248 (by decide +kernel) (by decide +kernel)
theorem tw1193 : (Jvm.Cond.instanceMethod ({ cls := "LeaseLand$Register", name := "fewestDoubted", desc := "()I" } : Jvm.MethodName)) ∈ mj_tbl := mj_w 1246 (by decide +kernel) (by decide +kernel)
theorem tw1194 : (Jvm.Cond.selects "LeaseLand$Register" ({ cls := "LeaseLand$Register", name := "fewestDoubted", desc := "()I" } : Jvm.MethodName) ({ cls := "LeaseLand$Register", name := "fewestDoubted", desc := "()I" } : Jvm.MethodName)) ∈ mj_tbl := mj_w 1247 (by decide +kernel) (by decide +kernel)
theorem ty_X9_fewestDoubted : mj_YV 9 yX9_fewestDoubted cX9_fewestDoubted 4 (some .int) 0 := ⟨⟨tw1195, tw10, by decide +kernel, by decide +kernel, by decide +kernel⟩, tw1193, tw1194, _, rfl, rfl⟩
def rm_X11_doubted : Room := { frames := 3, cells := 0, slots := 0, locals := 70 }
theorem dX11_doubted_0 : decode cX11_doubted 0 = .ok (.iconst 0, 1) := by decide +kernel
theorem dX11_doubted_1 : decode cX11_doubted 1 = .ok (.istore_n 2, 1) := by decide +kernel
theorem dX11_doubted_2 : decode cX11_doubted 2 = .ok (.aload_n 0, 1) := by decide +kernel
theorem dX11_doubted_3 : decode cX11_doubted 3 = .ok (.getfield 54, 3) := by decide +kernel
theorem dX11_doubted_6 : decode cX11_doubted 6 = .ok (.invokevirtual 429, 3) := by decide +kernel
theorem dX11_doubted_9 : decode cX11_doubted 9 = .ok (.istore_n 3, 1) := by decide +kernel
theorem dX11_doubted_10 : decode cX11_doubted 10 = .ok (.iconst 0, 1) := by decide +kernel
theorem dX11_doubted_11 : decode cX11_doubted 11 = .ok (.istore 4, 2) := by decide +kernel
theorem dX11_doubted_13 : decode cX11_doubted 13 = .ok (.iload 4, 2) := by decide +kernel
theorem dX11_doubted_15 : decode cX11_doubted 15 = .ok (.aload_n 0, 1) := by decide +kernel
theorem dX11_doubted_16 : decode cX11_doubted 16 = .ok (.getfield 54, 3) := by decide +kernel
theorem dX11_doubted_19 : decode cX11_doubted 19 = .ok (.invokevirtual 423, 3) := by decide +kernel
theorem dX11_doubted_22 : decode cX11_doubted 22 = .ok (.if_icmp .gt 51, 3) := by decide +kernel
theorem dX11_doubted_25 : decode cX11_doubted 25 = .ok (.iload 4, 2) := by decide +kernel
theorem dX11_doubted_27 : decode cX11_doubted 27 = .ok (.invokestatic 388, 3) := by decide +kernel
theorem dX11_doubted_30 : decode cX11_doubted 30 = .ok (.iload_n 3, 1) := by decide +kernel
theorem dX11_doubted_31 : decode cX11_doubted 31 = .ok (.if_icmp .ne 36, 3) := by decide +kernel
theorem dX11_doubted_34 : decode cX11_doubted 34 = .ok (.aload_n 0, 1) := by decide +kernel
theorem dX11_doubted_35 : decode cX11_doubted 35 = .ok (.getfield 54, 3) := by decide +kernel
theorem dX11_doubted_38 : decode cX11_doubted 38 = .ok (.aload_n 0, 1) := by decide +kernel
theorem dX11_doubted_39 : decode cX11_doubted 39 = .ok (.getfield 54, 3) := by decide +kernel
theorem dX11_doubted_42 : decode cX11_doubted 42 = .ok (.invokevirtual 423, 3) := by decide +kernel
theorem dX11_doubted_45 : decode cX11_doubted 45 = .ok (.iload 4, 2) := by decide +kernel
theorem dX11_doubted_47 : decode cX11_doubted 47 = .ok (.iconst (-1), 1) := by decide +kernel
theorem dX11_doubted_48 : decode cX11_doubted 48 = .ok (.ixor, 1) := by decide +kernel
theorem dX11_doubted_49 : decode cX11_doubted 49 = .ok (.iand, 1) := by decide +kernel
theorem dX11_doubted_50 : decode cX11_doubted 50 = .ok (.invokevirtual 426, 3) := by decide +kernel
theorem dX11_doubted_53 : decode cX11_doubted 53 = .ok (.ifCond .eq 14, 3) := by decide +kernel
theorem dX11_doubted_56 : decode cX11_doubted 56 = .ok (.iload_n 2, 1) := by decide +kernel
theorem dX11_doubted_57 : decode cX11_doubted 57 = .ok (.iload_n 1, 1) := by decide +kernel
theorem dX11_doubted_58 : decode cX11_doubted 58 = .ok (.if_icmp .ne 6, 3) := by decide +kernel
theorem dX11_doubted_61 : decode cX11_doubted 61 = .ok (.iload 4, 2) := by decide +kernel
theorem dX11_doubted_63 : decode cX11_doubted 63 = .ok (.ireturn, 1) := by decide +kernel
theorem dX11_doubted_64 : decode cX11_doubted 64 = .ok (.iinc 2 1, 3) := by decide +kernel
theorem dX11_doubted_67 : decode cX11_doubted 67 = .ok (.iinc 4 1, 3) := by decide +kernel
theorem dX11_doubted_70 : decode cX11_doubted 70 = .ok (.goto (-57), 3) := by decide +kernel
theorem dX11_doubted_73 : decode cX11_doubted 73 = .ok (.iload_n 1, 1) := by decide +kernel
theorem dX11_doubted_74 : decode cX11_doubted 74 = .ok (.iconst (-1), 1) := by decide +kernel
theorem dX11_doubted_75 : decode cX11_doubted 75 = .ok (.if_icmp .ne 7, 3) := by decide +kernel
theorem dX11_doubted_78 : decode cX11_doubted 78 = .ok (.iload_n 2, 1) := by decide +kernel
theorem dX11_doubted_79 : decode cX11_doubted 79 = .ok (.goto 5, 3) := by decide +kernel
theorem dX11_doubted_82 : decode cX11_doubted 82 = .ok (.bipush (-6), 2) := by decide +kernel
theorem dX11_doubted_84 : decode cX11_doubted 84 = .ok (.ireturn, 1) := by decide +kernel
def vb_X11_doubted_13 (post : Int32 → mj_M → Prop) : Nat → Nat → Int32 → Int32 → Int32 → Int32 → mj_M → Prop
  | 0 => fun _ _ _ _ _ _ => False
  | f + 1 => fun l0 l1 l2 l3 l4 M => mj_tag M l0 = 12 ∧ mj_tag M (mj_r M l0 6) = 10 ∧ vc_X9_all (mj_r M l0 6) M (fun r3 M4 => if r3 < l4 then (if l1 = ((-1)) then (post l2 M4) else (post ((-6)) M4)) else (vc_J6_bitCount_0f7a4 l4 M4 (fun r7 M8 => if r7 = l3 then (mj_tag M8 l0 = 12 ∧ mj_tag M8 (mj_r M8 l0 6) = 10 ∧ vc_X9_all (mj_r M8 l0 6) M8 (fun r12 M13 => mj_tag M13 (mj_r M8 l0 6) = 10 ∧ vc_X9_canBe (mj_r M8 l0 6) (r12 &&& (l4 ^^^ ((-1)))) M13 (fun r15 M16 => if r15 = true then (if l2 = l1 then (post l4 M16) else (vb_X11_doubted_13 post f l0 l1 (l2 + 1) l3 (l4 + 1) M16)) else (vb_X11_doubted_13 post f l0 l1 l2 l3 (l4 + 1) M16)))) else (vb_X11_doubted_13 post f l0 l1 l2 l3 (l4 + 1) M8))))
def vc_X11_doubted (l0 : Nat) (l1 : Int32) (M : mj_M) (post : Int32 → mj_M → Prop) : Prop := mj_tag M l0 = 12 ∧ mj_tag M (mj_r M l0 6) = 10 ∧ vc_X9_fewestDoubted (mj_r M l0 6) M (fun r21 M22 => ∃ fe, vb_X11_doubted_13 post fe l0 l1 0 r21 0 M22)
set_option maxHeartbeats 4000000 in
set_option maxRecDepth 100000 in
theorem xb_X11_doubted_13 {g : mj_G} {post : Int32 → mj_M → Prop} (hC : mj_C g yX11_doubted cX11_doubted 5 (some .int) rm_X11_doubted) (hE : mj_E g mj_jI post 0 0) : ∀ (f : Nat) (l0 : Nat) (l1 : Int32) (l2 : Int32) (l3 : Int32) (l4 : Int32) (M : mj_M), vb_X11_doubted_13 post f l0 l1 l2 l3 l4 M → mj_X g 13 [(0, vR l0), (1, vI l1), (2, vI l2), (3, vI l3), (4, vI l4)] [] M 0 0 := by
  intro f
  induction f with
  | zero => exact fun _ _ _ _ _ _ h => absurd h (fun z => z)
  | succ f ih =>
    intro l0 l1 l2 l3 l4 M h
    simp only [vb_X11_doubted_13] at h
    refine mx_iload (j := 4) hC dX11_doubted_13 rfl ?_
    refine mx_aload_n (j := 0) hC dX11_doubted_15 rfl rfl ?_
    obtain ⟨ht1, h⟩ := h
    refine mx_get (v := vR (mj_r M l0 6)) hC tf_X11_54 ht1 rfl dX11_doubted_16 ?_
    obtain ⟨ht2, h⟩ := h
    refine mx_callV (inj := mj_jI) (As := []) (st := [vI l4]) hC (ct_X9_all (mj_r M l0 6) M _ h) ty_X9_all tw1176 ht2 rfl (Nat.le_of_ble_eq_true rfl) ⟨rfl, rfl, ⟨by decide, by decide⟩, by decide, by decide⟩ dX11_doubted_19 (fun r3 M4 h => ?_)
    show mj_X g 22 [(0, vR l0), (1, vI l1), (2, vI l2), (3, vI l3), (4, vI l4)] [vI r3, vI l4] M4 0 0
    refine mx_icmpgt (tgt := 73) hC dX11_doubted_22 (by decide) (fun hc5 => ?_) (fun hc5 => ?_)
    · replace h := mj_yy hc5 h
      refine mx_iload_n (j := 1) hC dX11_doubted_73 rfl rfl ?_
      refine mx_iconst (v := (-1)) hC dX11_doubted_74 (by decide) ?_
      refine mx_icmpne (tgt := 82) hC dX11_doubted_75 (by decide) (fun hc6 => ?_) (fun hc6 => ?_)
      · replace h := mj_nn hc6 h
        refine mx_bipush (v := (-6)) hC dX11_doubted_82 (by decide) ?_
        exact mx_iret hC hE rfl dX11_doubted_84 h
      · replace h := mj_yy hc6 h
        refine mx_iload_n (j := 2) hC dX11_doubted_78 rfl rfl ?_
        refine mx_goto (tgt := 84) hC dX11_doubted_79 (by decide) ?_
        exact mx_iret hC hE rfl dX11_doubted_84 h
    · replace h := mj_nn hc5 h
      refine mx_iload (j := 4) hC dX11_doubted_25 rfl ?_
      refine mx_callS (inj := mj_jI) (As := [vI l4]) (st := []) hC (ct_J6_bitCount_0f7a4 l4 M4 _ h) ty_J6_bitCount_0f7a4 tw1130 rfl (Nat.le_of_ble_eq_true rfl) ⟨rfl, rfl, ⟨by decide, by decide⟩, by decide, by decide⟩ dX11_doubted_27 (fun r7 M8 h => ?_)
      show mj_X g 30 [(0, vR l0), (1, vI l1), (2, vI l2), (3, vI l3), (4, vI l4)] [vI r7] M8 0 0
      refine mx_iload_n (j := 3) hC dX11_doubted_30 rfl rfl ?_
      refine mx_icmpne (tgt := 67) hC dX11_doubted_31 (by decide) (fun hc9 => ?_) (fun hc9 => ?_)
      · replace h := mj_nn hc9 h
        refine mx_iinc (j := 4) (v := l4 + 1) (L' := [(4, vI (l4 + 1)), (0, vR l0), (1, vI l1), (2, vI l2), (3, vI l3)]) hC dX11_doubted_67 rfl rfl (by decide) rfl ?_
        refine mx_goto (tgt := 13) hC dX11_doubted_70 (by decide) ?_
        refine mx_sub (L' := [(0, vR l0), (1, vI l1), (2, vI l2), (3, vI l3), (4, vI (l4 + 1))]) [1, 2, 3, 4, 0] rfl ?_
        exact show mj_X g 13 [(0, vR l0), (1, vI l1), (2, vI l2), (3, vI l3), (4, vI (l4 + 1))] [] M8 0 0 from (ih l0 l1 l2 l3 (l4 + 1) M8 h)
      · replace h := mj_yy hc9 h
        refine mx_aload_n (j := 0) hC dX11_doubted_34 rfl rfl ?_
        obtain ⟨ht10, h⟩ := h
        refine mx_get (v := vR (mj_r M8 l0 6)) hC tf_X11_54 ht10 rfl dX11_doubted_35 ?_
        refine mx_aload_n (j := 0) hC dX11_doubted_38 rfl rfl ?_
        refine mx_get (v := vR (mj_r M8 l0 6)) hC tf_X11_54 ht10 rfl dX11_doubted_39 ?_
        obtain ⟨ht11, h⟩ := h
        refine mx_callV (inj := mj_jI) (As := []) (st := [vR (mj_r M8 l0 6)]) hC (ct_X9_all (mj_r M8 l0 6) M8 _ h) ty_X9_all tw1176 ht11 rfl (Nat.le_of_ble_eq_true rfl) ⟨rfl, rfl, ⟨by decide, by decide⟩, by decide, by decide⟩ dX11_doubted_42 (fun r12 M13 h => ?_)
        show mj_X g 45 [(0, vR l0), (1, vI l1), (2, vI l2), (3, vI l3), (4, vI l4)] [vI r12, vR (mj_r M8 l0 6)] M13 0 0
        refine mx_iload (j := 4) hC dX11_doubted_45 rfl ?_
        refine mx_iconst (v := (-1)) hC dX11_doubted_47 (by decide) ?_
        refine mx_ixor hC dX11_doubted_48 ?_
        refine mx_iand hC dX11_doubted_49 ?_
        obtain ⟨ht14, h⟩ := h
        refine mx_callV (inj := mj_jB) (As := [vI (r12 &&& (l4 ^^^ ((-1))))]) (st := []) hC (ct_X9_canBe (mj_r M8 l0 6) (r12 &&& (l4 ^^^ ((-1)))) M13 _ h) ty_X9_canBe tw1180 ht14 rfl (Nat.le_of_ble_eq_true rfl) ⟨rfl, rfl, ⟨by decide, by decide⟩, by decide, by decide⟩ dX11_doubted_50 (fun r15 M16 h => ?_)
        show mj_X g 53 [(0, vR l0), (1, vI l1), (2, vI l2), (3, vI l3), (4, vI l4)] [vI (mj_b r15)] M16 0 0
        refine mx_ifeqB (tgt := 67) hC dX11_doubted_53 (by decide) (fun hc17 => ?_) (fun hc17 => ?_)
        · replace h := mj_nn hc17 h
          refine mx_iinc (j := 4) (v := l4 + 1) (L' := [(4, vI (l4 + 1)), (0, vR l0), (1, vI l1), (2, vI l2), (3, vI l3)]) hC dX11_doubted_67 rfl rfl (by decide) rfl ?_
          refine mx_goto (tgt := 13) hC dX11_doubted_70 (by decide) ?_
          refine mx_sub (L' := [(0, vR l0), (1, vI l1), (2, vI l2), (3, vI l3), (4, vI (l4 + 1))]) [1, 2, 3, 4, 0] rfl ?_
          exact show mj_X g 13 [(0, vR l0), (1, vI l1), (2, vI l2), (3, vI l3), (4, vI (l4 + 1))] [] M16 0 0 from (ih l0 l1 l2 l3 (l4 + 1) M16 h)
        · replace h := mj_yy hc17 h
          refine mx_iload_n (j := 2) hC dX11_doubted_56 rfl rfl ?_
          refine mx_iload_n (j := 1) hC dX11_doubted_57 rfl rfl ?_
          refine mx_icmpne (tgt := 64) hC dX11_doubted_58 (by decide) (fun hc18 => ?_) (fun hc18 => ?_)
          · replace h := mj_nn hc18 h
            refine mx_iinc (j := 2) (v := l2 + 1) (L' := [(2, vI (l2 + 1)), (0, vR l0), (1, vI l1), (3, vI l3), (4, vI l4)]) hC dX11_doubted_64 rfl rfl (by decide) rfl ?_
            refine mx_iinc (j := 4) (v := l4 + 1) (L' := [(4, vI (l4 + 1)), (2, vI (l2 + 1)), (0, vR l0), (1, vI l1), (3, vI l3)]) hC dX11_doubted_67 rfl rfl (by decide) rfl ?_
            refine mx_goto (tgt := 13) hC dX11_doubted_70 (by decide) ?_
            refine mx_sub (L' := [(0, vR l0), (1, vI l1), (2, vI (l2 + 1)), (3, vI l3), (4, vI (l4 + 1))]) [2, 3, 1, 4, 0] rfl ?_
            exact show mj_X g 13 [(0, vR l0), (1, vI l1), (2, vI (l2 + 1)), (3, vI l3), (4, vI (l4 + 1))] [] M16 0 0 from (ih l0 l1 (l2 + 1) l3 (l4 + 1) M16 h)
          · replace h := mj_yy hc18 h
            refine mx_iload (j := 4) hC dX11_doubted_61 rfl ?_
            exact mx_iret hC hE rfl dX11_doubted_63 h
set_option maxHeartbeats 4000000 in
set_option maxRecDepth 100000 in
theorem ct_X11_doubted {l : Launch} {base : Nat} {D : va_G} {A : ClassId × ClassId × ClassId} (l0 : Nat) (l1 : Int32) (M : mj_M) (post : Int32 → mj_M → Prop) (h : vc_X11_doubted l0 l1 M post) : mj_Met l base D A mj_jI yX11_doubted cX11_doubted 5 (some .int) rm_X11_doubted 0 0 [vR l0, vI l1] M post := by
  refine mj_entry (by decide +kernel) (Nat.le_of_ble_eq_true rfl) (fun g hC hE h1 h2 h3 h4 => ?_)
  show mj_X g 0 [(0, vR l0), (1, vI l1)] [] M 0 0
  simp only [vc_X11_doubted] at h
  refine mx_iconst (v := 0) hC dX11_doubted_0 (by decide) ?_
  refine mx_istore_n (L' := [(2, vI 0), (0, vR l0), (1, vI l1)]) hC dX11_doubted_1 rfl (by decide) rfl ?_
  refine mx_aload_n (j := 1) hC dX11_doubted_2 rfl rfl ?_
  obtain ⟨ht19, h⟩ := h
  refine mx_get (v := vR (mj_r M l0 6)) hC tf_X11_54 ht19 rfl dX11_doubted_3 ?_
  obtain ⟨ht20, h⟩ := h
  refine mx_callV (inj := mj_jI) (As := []) (st := []) hC (ct_X9_fewestDoubted (mj_r M l0 6) M _ h) ty_X9_fewestDoubted tw1192 ht20 rfl (Nat.le_of_ble_eq_true rfl) ⟨rfl, rfl, ⟨by decide, by decide⟩, by decide, by decide⟩ dX11_doubted_6 (fun r21 M22 h => ?_)
  show mj_X g 9 [(2, vI 0), (0, vR l0), (1, vI l1)] [vI r21] M22 0 0
  refine mx_istore_n (L' := [(3, vI r21), (2, vI 0), (0, vR l0), (1, vI l1)]) hC dX11_doubted_9 rfl (by decide) rfl ?_
  refine mx_iconst (v := 0) hC dX11_doubted_10 (by decide) ?_
  refine mx_istore (L' := [(4, vI 0), (3, vI r21), (2, vI 0), (0, vR l0), (1, vI l1)]) hC dX11_doubted_11 (by decide) rfl ?_
  refine mx_sub (L' := [(0, vR l0), (1, vI l1), (2, vI 0), (3, vI r21), (4, vI 0)]) [3, 4, 2, 1, 0] rfl ?_
  obtain ⟨fe, h⟩ := h
  exact show mj_X g 13 [(0, vR l0), (1, vI l1), (2, vI 0), (3, vI r21), (4, vI 0)] [] M22 0 0 from (xb_X11_doubted_13 hC hE fe l0 l1 0 r21 0 M22 h)
theorem tw45 : (Jvm.Cond.fieldLink "LeaseLand" (432 : Nat) "LeaseLand$Land" "count" "I") ∈ mj_tbl := mj_w 98 (by decide +kernel) (by decide +kernel)
theorem tf_X11_432 : mj_F 4 3 .int false "LeaseLand" 432 := ⟨_, tk4, by decide, rfl, rfl, rfl, tw45⟩
theorem tw242 : (Jvm.Cond.fieldLink "LeaseLand" (433 : Nat) "LeaseLand$Register" "count" "I") ∈ mj_tbl := mj_w 295 (by decide +kernel) (by decide +kernel)
theorem tf_X11_433 : mj_F 9 6 .int false "LeaseLand" 433 := ⟨_, tk9, by decide, rfl, rfl, rfl, tw242⟩
def rm_X11_told : Room := { frames := 0, cells := 0, slots := 0, locals := 0 }
theorem dX11_told_0 : decode cX11_told 0 = .ok (.iload_n 1, 1) := by decide +kernel
theorem dX11_told_1 : decode cX11_told 1 = .ok (.bipush 10, 2) := by decide +kernel
theorem dX11_told_3 : decode cX11_told 3 = .ok (.if_icmp .lt 22, 3) := by decide +kernel
theorem dX11_told_6 : decode cX11_told 6 = .ok (.iload_n 1, 1) := by decide +kernel
theorem dX11_told_7 : decode cX11_told 7 = .ok (.bipush 22, 2) := by decide +kernel
theorem dX11_told_9 : decode cX11_told 9 = .ok (.if_icmp .ge 16, 3) := by decide +kernel
theorem dX11_told_12 : decode cX11_told 12 = .ok (.aload_n 0, 1) := by decide +kernel
theorem dX11_told_13 : decode cX11_told 13 = .ok (.getfield 40, 3) := by decide +kernel
theorem dX11_told_16 : decode cX11_told 16 = .ok (.getfield 310, 3) := by decide +kernel
theorem dX11_told_19 : decode cX11_told 19 = .ok (.iload_n 1, 1) := by decide +kernel
theorem dX11_told_20 : decode cX11_told 20 = .ok (.bipush 10, 2) := by decide +kernel
theorem dX11_told_22 : decode cX11_told 22 = .ok (.isub, 1) := by decide +kernel
theorem dX11_told_23 : decode cX11_told 23 = .ok (.iaload, 1) := by decide +kernel
theorem dX11_told_24 : decode cX11_told 24 = .ok (.ireturn, 1) := by decide +kernel
theorem dX11_told_25 : decode cX11_told 25 = .ok (.iload_n 1, 1) := by decide +kernel
theorem dX11_told_26 : decode cX11_told 26 = .ok (.bipush 30, 2) := by decide +kernel
theorem dX11_told_28 : decode cX11_told 28 = .ok (.if_icmp .lt 22, 3) := by decide +kernel
theorem dX11_told_31 : decode cX11_told 31 = .ok (.iload_n 1, 1) := by decide +kernel
theorem dX11_told_32 : decode cX11_told 32 = .ok (.bipush 42, 2) := by decide +kernel
theorem dX11_told_34 : decode cX11_told 34 = .ok (.if_icmp .ge 16, 3) := by decide +kernel
theorem dX11_told_37 : decode cX11_told 37 = .ok (.aload_n 0, 1) := by decide +kernel
theorem dX11_told_38 : decode cX11_told 38 = .ok (.getfield 10, 3) := by decide +kernel
theorem dX11_told_41 : decode cX11_told 41 = .ok (.getfield 198, 3) := by decide +kernel
theorem dX11_told_44 : decode cX11_told 44 = .ok (.iload_n 1, 1) := by decide +kernel
theorem dX11_told_45 : decode cX11_told 45 = .ok (.bipush 30, 2) := by decide +kernel
theorem dX11_told_47 : decode cX11_told 47 = .ok (.isub, 1) := by decide +kernel
theorem dX11_told_48 : decode cX11_told 48 = .ok (.iaload, 1) := by decide +kernel
theorem dX11_told_49 : decode cX11_told 49 = .ok (.ireturn, 1) := by decide +kernel
theorem dX11_told_50 : decode cX11_told 50 = .ok (.iload_n 1, 1) := by decide +kernel
theorem dX11_told_51 : decode cX11_told 51 = .ok (.tableswitch 133 (-1) 8 #[53, 61, 69, 77, 85, 93, 101, 109, 117, 125], 53) := by decide +kernel
theorem dX11_told_104 : decode cX11_told 104 = .ok (.aload_n 0, 1) := by decide +kernel
theorem dX11_told_105 : decode cX11_told 105 = .ok (.getfield 10, 3) := by decide +kernel
theorem dX11_told_108 : decode cX11_told 108 = .ok (.getfield 66, 3) := by decide +kernel
theorem dX11_told_111 : decode cX11_told 111 = .ok (.ireturn, 1) := by decide +kernel
theorem dX11_told_112 : decode cX11_told 112 = .ok (.aload_n 0, 1) := by decide +kernel
theorem dX11_told_113 : decode cX11_told 113 = .ok (.getfield 10, 3) := by decide +kernel
theorem dX11_told_116 : decode cX11_told 116 = .ok (.getfield 432, 3) := by decide +kernel
theorem dX11_told_119 : decode cX11_told 119 = .ok (.ireturn, 1) := by decide +kernel
theorem dX11_told_120 : decode cX11_told 120 = .ok (.aload_n 0, 1) := by decide +kernel
theorem dX11_told_121 : decode cX11_told 121 = .ok (.getfield 19, 3) := by decide +kernel
theorem dX11_told_124 : decode cX11_told 124 = .ok (.getfield 207, 3) := by decide +kernel
theorem dX11_told_127 : decode cX11_told 127 = .ok (.ireturn, 1) := by decide +kernel
theorem dX11_told_128 : decode cX11_told 128 = .ok (.aload_n 0, 1) := by decide +kernel
theorem dX11_told_129 : decode cX11_told 129 = .ok (.getfield 19, 3) := by decide +kernel
theorem dX11_told_132 : decode cX11_told 132 = .ok (.getfield 216, 3) := by decide +kernel
theorem dX11_told_135 : decode cX11_told 135 = .ok (.ireturn, 1) := by decide +kernel
theorem dX11_told_136 : decode cX11_told 136 = .ok (.aload_n 0, 1) := by decide +kernel
theorem dX11_told_137 : decode cX11_told 137 = .ok (.getfield 33, 3) := by decide +kernel
theorem dX11_told_140 : decode cX11_told 140 = .ok (.getfield 260, 3) := by decide +kernel
theorem dX11_told_143 : decode cX11_told 143 = .ok (.ireturn, 1) := by decide +kernel
theorem dX11_told_144 : decode cX11_told 144 = .ok (.aload_n 0, 1) := by decide +kernel
theorem dX11_told_145 : decode cX11_told 145 = .ok (.getfield 40, 3) := by decide +kernel
theorem dX11_told_148 : decode cX11_told 148 = .ok (.getfield 322, 3) := by decide +kernel
theorem dX11_told_151 : decode cX11_told 151 = .ok (.ireturn, 1) := by decide +kernel
theorem dX11_told_152 : decode cX11_told 152 = .ok (.aload_n 0, 1) := by decide +kernel
theorem dX11_told_153 : decode cX11_told 153 = .ok (.getfield 47, 3) := by decide +kernel
theorem dX11_told_156 : decode cX11_told 156 = .ok (.getfield 335, 3) := by decide +kernel
theorem dX11_told_159 : decode cX11_told 159 = .ok (.ireturn, 1) := by decide +kernel
theorem dX11_told_160 : decode cX11_told 160 = .ok (.aload_n 0, 1) := by decide +kernel
theorem dX11_told_161 : decode cX11_told 161 = .ok (.getfield 54, 3) := by decide +kernel
theorem dX11_told_164 : decode cX11_told 164 = .ok (.getfield 433, 3) := by decide +kernel
theorem dX11_told_167 : decode cX11_told 167 = .ok (.ireturn, 1) := by decide +kernel
theorem dX11_told_168 : decode cX11_told 168 = .ok (.aload_n 0, 1) := by decide +kernel
theorem dX11_told_169 : decode cX11_told 169 = .ok (.getfield 40, 3) := by decide +kernel
theorem dX11_told_172 : decode cX11_told 172 = .ok (.getfield 350, 3) := by decide +kernel
theorem dX11_told_175 : decode cX11_told 175 = .ok (.ireturn, 1) := by decide +kernel
theorem dX11_told_176 : decode cX11_told 176 = .ok (.aload_n 0, 1) := by decide +kernel
theorem dX11_told_177 : decode cX11_told 177 = .ok (.getfield 40, 3) := by decide +kernel
theorem dX11_told_180 : decode cX11_told 180 = .ok (.getfield 353, 3) := by decide +kernel
theorem dX11_told_183 : decode cX11_told 183 = .ok (.ireturn, 1) := by decide +kernel
theorem dX11_told_184 : decode cX11_told 184 = .ok (.bipush (-2), 2) := by decide +kernel
theorem dX11_told_186 : decode cX11_told 186 = .ok (.ireturn, 1) := by decide +kernel
def vb_X11_told_50 (post : Int32 → mj_M → Prop) (l0 : Nat) (l1 : Int32) (M : mj_M) : Prop := if l1 = (-1) then (mj_tag M l0 = 12 ∧ mj_tag M (mj_r M l0 0) = 5 ∧ post (mj_i M (mj_r M l0 0) 0) M) else (if l1 = 0 then (mj_tag M l0 = 12 ∧ mj_tag M (mj_r M l0 0) = 5 ∧ post (mj_i M (mj_r M l0 0) 3) M) else (if l1 = 1 then (mj_tag M l0 = 12 ∧ mj_tag M (mj_r M l0 1) = 2 ∧ post (mj_i M (mj_r M l0 1) 2) M) else (if l1 = 2 then (mj_tag M l0 = 12 ∧ mj_tag M (mj_r M l0 1) = 2 ∧ post (mj_i M (mj_r M l0 1) 3) M) else (if l1 = 3 then (mj_tag M l0 = 12 ∧ mj_tag M (mj_r M l0 3) = 8 ∧ post (mj_i M (mj_r M l0 3) 2) M) else (if l1 = 4 then (mj_tag M l0 = 12 ∧ mj_tag M (mj_r M l0 4) = 6 ∧ post (mj_i M (mj_r M l0 4) 3) M) else (if l1 = 5 then (mj_tag M l0 = 12 ∧ mj_tag M (mj_r M l0 5) = 11 ∧ post (mj_i M (mj_r M l0 5) 2) M) else (if l1 = 6 then (mj_tag M l0 = 12 ∧ mj_tag M (mj_r M l0 6) = 10 ∧ post (mj_i M (mj_r M l0 6) 6) M) else (if l1 = 7 then (mj_tag M l0 = 12 ∧ mj_tag M (mj_r M l0 4) = 6 ∧ post (mj_i M (mj_r M l0 4) 4) M) else (if l1 = 8 then (mj_tag M l0 = 12 ∧ mj_tag M (mj_r M l0 4) = 6 ∧ post (mj_i M (mj_r M l0 4) 5) M) else (post ((-2)) M))))))))))
def vb_X11_told_25 (post : Int32 → mj_M → Prop) (l0 : Nat) (l1 : Int32) (M : mj_M) : Prop := if l1 < 30 then (vb_X11_told_50 post l0 l1 M) else (if 42 ≤ l1 then (vb_X11_told_50 post l0 l1 M) else (mj_tag M l0 = 12 ∧ mj_tag M (mj_r M l0 0) = 5 ∧ mj_tag M (mj_r M (mj_r M l0 0) 5) = 101 ∧ vp_in (l1 - 30) (mj_len M (mj_r M (mj_r M l0 0) 5)) ∧ post (mj_i M (mj_r M (mj_r M l0 0) 5) (l1 - 30 : Int32).toNatClampNeg) M))
def vc_X11_told (l0 : Nat) (l1 : Int32) (M : mj_M) (post : Int32 → mj_M → Prop) : Prop := if l1 < 10 then (vb_X11_told_25 post l0 l1 M) else (if 22 ≤ l1 then (vb_X11_told_25 post l0 l1 M) else (mj_tag M l0 = 12 ∧ mj_tag M (mj_r M l0 4) = 6 ∧ mj_tag M (mj_r M (mj_r M l0 4) 0) = 101 ∧ vp_in (l1 - 10) (mj_len M (mj_r M (mj_r M l0 4) 0)) ∧ post (mj_i M (mj_r M (mj_r M l0 4) 0) (l1 - 10 : Int32).toNatClampNeg) M))
set_option maxHeartbeats 4000000 in
set_option maxRecDepth 100000 in
theorem xb_X11_told_50 {g : mj_G} {post : Int32 → mj_M → Prop} (hC : mj_C g yX11_told cX11_told 2 (some .int) rm_X11_told) (hE : mj_E g mj_jI post 0 0) (l0 : Nat) (l1 : Int32) (M : mj_M) (h : vb_X11_told_50 post l0 l1 M) : mj_X g 50 [(0, vR l0), (1, vI l1)] [] M 0 0 := by
  simp only [vb_X11_told_50] at h
  refine mx_iload_n (j := 1) hC dX11_told_50 rfl rfl ?_
  by_cases hc1 : l1 = (-1)
  · replace h := mj_yy hc1 h
    refine mx_tsin (v := (-1)) (off := 53) (tgt := 104) hC dX11_told_51 hc1 (by decide) (by decide) (by decide) (by decide) ?_
    refine mx_aload_n (j := 0) hC dX11_told_104 rfl rfl ?_
    obtain ⟨ht2, h⟩ := h
    refine mx_get (v := vR (mj_r M l0 0)) hC tf_X11_10 ht2 rfl dX11_told_105 ?_
    obtain ⟨ht3, h⟩ := h
    refine mx_get (v := vI (mj_i M (mj_r M l0 0) 0)) hC tf_X11_66 ht3 rfl dX11_told_108 ?_
    exact mx_iret hC hE rfl dX11_told_111 h
  replace h := mj_nn hc1 h
  by_cases hc4 : l1 = 0
  · replace h := mj_yy hc4 h
    refine mx_tsin (v := 0) (off := 61) (tgt := 112) hC dX11_told_51 hc4 (by decide) (by decide) (by decide) (by decide) ?_
    refine mx_aload_n (j := 0) hC dX11_told_112 rfl rfl ?_
    obtain ⟨ht5, h⟩ := h
    refine mx_get (v := vR (mj_r M l0 0)) hC tf_X11_10 ht5 rfl dX11_told_113 ?_
    obtain ⟨ht6, h⟩ := h
    refine mx_get (v := vI (mj_i M (mj_r M l0 0) 3)) hC tf_X11_432 ht6 rfl dX11_told_116 ?_
    exact mx_iret hC hE rfl dX11_told_119 h
  replace h := mj_nn hc4 h
  by_cases hc7 : l1 = 1
  · replace h := mj_yy hc7 h
    refine mx_tsin (v := 1) (off := 69) (tgt := 120) hC dX11_told_51 hc7 (by decide) (by decide) (by decide) (by decide) ?_
    refine mx_aload_n (j := 0) hC dX11_told_120 rfl rfl ?_
    obtain ⟨ht8, h⟩ := h
    refine mx_get (v := vR (mj_r M l0 1)) hC tf_X11_19 ht8 rfl dX11_told_121 ?_
    obtain ⟨ht9, h⟩ := h
    refine mx_get (v := vI (mj_i M (mj_r M l0 1) 2)) hC tf_X11_207 ht9 rfl dX11_told_124 ?_
    exact mx_iret hC hE rfl dX11_told_127 h
  replace h := mj_nn hc7 h
  by_cases hc10 : l1 = 2
  · replace h := mj_yy hc10 h
    refine mx_tsin (v := 2) (off := 77) (tgt := 128) hC dX11_told_51 hc10 (by decide) (by decide) (by decide) (by decide) ?_
    refine mx_aload_n (j := 0) hC dX11_told_128 rfl rfl ?_
    obtain ⟨ht11, h⟩ := h
    refine mx_get (v := vR (mj_r M l0 1)) hC tf_X11_19 ht11 rfl dX11_told_129 ?_
    obtain ⟨ht12, h⟩ := h
    refine mx_get (v := vI (mj_i M (mj_r M l0 1) 3)) hC tf_X11_216 ht12 rfl dX11_told_132 ?_
    exact mx_iret hC hE rfl dX11_told_135 h
  replace h := mj_nn hc10 h
  by_cases hc13 : l1 = 3
  · replace h := mj_yy hc13 h
    refine mx_tsin (v := 3) (off := 85) (tgt := 136) hC dX11_told_51 hc13 (by decide) (by decide) (by decide) (by decide) ?_
    refine mx_aload_n (j := 0) hC dX11_told_136 rfl rfl ?_
    obtain ⟨ht14, h⟩ := h
    refine mx_get (v := vR (mj_r M l0 3)) hC tf_X11_33 ht14 rfl dX11_told_137 ?_
    obtain ⟨ht15, h⟩ := h
    refine mx_get (v := vI (mj_i M (mj_r M l0 3) 2)) hC tf_X11_260 ht15 rfl dX11_told_140 ?_
    exact mx_iret hC hE rfl dX11_told_143 h
  replace h := mj_nn hc13 h
  by_cases hc16 : l1 = 4
  · replace h := mj_yy hc16 h
    refine mx_tsin (v := 4) (off := 93) (tgt := 144) hC dX11_told_51 hc16 (by decide) (by decide) (by decide) (by decide) ?_
    refine mx_aload_n (j := 0) hC dX11_told_144 rfl rfl ?_
    obtain ⟨ht17, h⟩ := h
    refine mx_get (v := vR (mj_r M l0 4)) hC tf_X11_40 ht17 rfl dX11_told_145 ?_
    obtain ⟨ht18, h⟩ := h
    refine mx_get (v := vI (mj_i M (mj_r M l0 4) 3)) hC tf_X11_322 ht18 rfl dX11_told_148 ?_
    exact mx_iret hC hE rfl dX11_told_151 h
  replace h := mj_nn hc16 h
  by_cases hc19 : l1 = 5
  · replace h := mj_yy hc19 h
    refine mx_tsin (v := 5) (off := 101) (tgt := 152) hC dX11_told_51 hc19 (by decide) (by decide) (by decide) (by decide) ?_
    refine mx_aload_n (j := 0) hC dX11_told_152 rfl rfl ?_
    obtain ⟨ht20, h⟩ := h
    refine mx_get (v := vR (mj_r M l0 5)) hC tf_X11_47 ht20 rfl dX11_told_153 ?_
    obtain ⟨ht21, h⟩ := h
    refine mx_get (v := vI (mj_i M (mj_r M l0 5) 2)) hC tf_X11_335 ht21 rfl dX11_told_156 ?_
    exact mx_iret hC hE rfl dX11_told_159 h
  replace h := mj_nn hc19 h
  by_cases hc22 : l1 = 6
  · replace h := mj_yy hc22 h
    refine mx_tsin (v := 6) (off := 109) (tgt := 160) hC dX11_told_51 hc22 (by decide) (by decide) (by decide) (by decide) ?_
    refine mx_aload_n (j := 0) hC dX11_told_160 rfl rfl ?_
    obtain ⟨ht23, h⟩ := h
    refine mx_get (v := vR (mj_r M l0 6)) hC tf_X11_54 ht23 rfl dX11_told_161 ?_
    obtain ⟨ht24, h⟩ := h
    refine mx_get (v := vI (mj_i M (mj_r M l0 6) 6)) hC tf_X11_433 ht24 rfl dX11_told_164 ?_
    exact mx_iret hC hE rfl dX11_told_167 h
  replace h := mj_nn hc22 h
  by_cases hc25 : l1 = 7
  · replace h := mj_yy hc25 h
    refine mx_tsin (v := 7) (off := 117) (tgt := 168) hC dX11_told_51 hc25 (by decide) (by decide) (by decide) (by decide) ?_
    refine mx_aload_n (j := 0) hC dX11_told_168 rfl rfl ?_
    obtain ⟨ht26, h⟩ := h
    refine mx_get (v := vR (mj_r M l0 4)) hC tf_X11_40 ht26 rfl dX11_told_169 ?_
    obtain ⟨ht27, h⟩ := h
    refine mx_get (v := vI (mj_i M (mj_r M l0 4) 4)) hC tf_X11_350 ht27 rfl dX11_told_172 ?_
    exact mx_iret hC hE rfl dX11_told_175 h
  replace h := mj_nn hc25 h
  by_cases hc28 : l1 = 8
  · replace h := mj_yy hc28 h
    refine mx_tsin (v := 8) (off := 125) (tgt := 176) hC dX11_told_51 hc28 (by decide) (by decide) (by decide) (by decide) ?_
    refine mx_aload_n (j := 0) hC dX11_told_176 rfl rfl ?_
    obtain ⟨ht29, h⟩ := h
    refine mx_get (v := vR (mj_r M l0 4)) hC tf_X11_40 ht29 rfl dX11_told_177 ?_
    obtain ⟨ht30, h⟩ := h
    refine mx_get (v := vI (mj_i M (mj_r M l0 4) 5)) hC tf_X11_353 ht30 rfl dX11_told_180 ?_
    exact mx_iret hC hE rfl dX11_told_183 h
  replace h := mj_nn hc28 h
  refine mx_tsout (vs := [(-1), 0, 1, 2, 3, 4, 5, 6, 7, 8]) (tgt := 184) hC dX11_told_51 (by decide) (by decide) (List.forall_mem_cons.mpr ⟨hc1, (List.forall_mem_cons.mpr ⟨hc4, (List.forall_mem_cons.mpr ⟨hc7, (List.forall_mem_cons.mpr ⟨hc10, (List.forall_mem_cons.mpr ⟨hc13, (List.forall_mem_cons.mpr ⟨hc16, (List.forall_mem_cons.mpr ⟨hc19, (List.forall_mem_cons.mpr ⟨hc22, (List.forall_mem_cons.mpr ⟨hc25, (List.forall_mem_cons.mpr ⟨hc28, (fun _ q => absurd q List.not_mem_nil)⟩)⟩)⟩)⟩)⟩)⟩)⟩)⟩)⟩)⟩) ?_
  refine mx_bipush (v := (-2)) hC dX11_told_184 (by decide) ?_
  exact mx_iret hC hE rfl dX11_told_186 h
set_option maxHeartbeats 4000000 in
set_option maxRecDepth 100000 in
theorem xb_X11_told_25 {g : mj_G} {post : Int32 → mj_M → Prop} (hC : mj_C g yX11_told cX11_told 2 (some .int) rm_X11_told) (hE : mj_E g mj_jI post 0 0) (l0 : Nat) (l1 : Int32) (M : mj_M) (h : vb_X11_told_25 post l0 l1 M) : mj_X g 25 [(0, vR l0), (1, vI l1)] [] M 0 0 := by
  simp only [vb_X11_told_25] at h
  refine mx_iload_n (j := 1) hC dX11_told_25 rfl rfl ?_
  refine mx_bipush (v := 30) hC dX11_told_26 (by decide) ?_
  refine mx_icmplt (tgt := 50) hC dX11_told_28 (by decide) (fun hc31 => ?_) (fun hc31 => ?_)
  · replace h := mj_yy hc31 h
    refine mx_sub (L' := [(0, vR l0), (1, vI l1)]) [0, 1] rfl ?_
    exact show mj_X g 50 [(0, vR l0), (1, vI l1)] [] M 0 0 from (xb_X11_told_50 hC hE l0 l1 M h)
  · replace h := mj_nn hc31 h
    refine mx_iload_n (j := 1) hC dX11_told_31 rfl rfl ?_
    refine mx_bipush (v := 42) hC dX11_told_32 (by decide) ?_
    refine mx_icmpge (tgt := 50) hC dX11_told_34 (by decide) (fun hc32 => ?_) (fun hc32 => ?_)
    · replace h := mj_yy hc32 h
      refine mx_sub (L' := [(0, vR l0), (1, vI l1)]) [0, 1] rfl ?_
      exact show mj_X g 50 [(0, vR l0), (1, vI l1)] [] M 0 0 from (xb_X11_told_50 hC hE l0 l1 M h)
    · replace h := mj_nn hc32 h
      refine mx_aload_n (j := 0) hC dX11_told_37 rfl rfl ?_
      obtain ⟨ht33, h⟩ := h
      refine mx_get (v := vR (mj_r M l0 0)) hC tf_X11_10 ht33 rfl dX11_told_38 ?_
      obtain ⟨ht34, h⟩ := h
      refine mx_get (v := vR (mj_r M (mj_r M l0 0) 5)) hC tf_X11_198 ht34 rfl dX11_told_41 ?_
      refine mx_iload_n (j := 1) hC dX11_told_44 rfl rfl ?_
      refine mx_bipush (v := 30) hC dX11_told_45 (by decide) ?_
      refine mx_isub hC dX11_told_47 ?_
      obtain ⟨ht35, h⟩ := h
      obtain ⟨hi36, h⟩ := h
      refine mx_iaload hC ht35 hi36 dX11_told_48 ?_
      exact mx_iret hC hE rfl dX11_told_49 h
set_option maxHeartbeats 4000000 in
set_option maxRecDepth 100000 in
theorem ct_X11_told {l : Launch} {base : Nat} {D : va_G} {A : ClassId × ClassId × ClassId} (l0 : Nat) (l1 : Int32) (M : mj_M) (post : Int32 → mj_M → Prop) (h : vc_X11_told l0 l1 M post) : mj_Met l base D A mj_jI yX11_told cX11_told 2 (some .int) rm_X11_told 0 0 [vR l0, vI l1] M post := by
  refine mj_entry (by decide +kernel) (Nat.le_of_ble_eq_true rfl) (fun g hC hE h1 h2 h3 h4 => ?_)
  show mj_X g 0 [(0, vR l0), (1, vI l1)] [] M 0 0
  simp only [vc_X11_told] at h
  refine mx_iload_n (j := 1) hC dX11_told_0 rfl rfl ?_
  refine mx_bipush (v := 10) hC dX11_told_1 (by decide) ?_
  refine mx_icmplt (tgt := 25) hC dX11_told_3 (by decide) (fun hc37 => ?_) (fun hc37 => ?_)
  · replace h := mj_yy hc37 h
    refine mx_sub (L' := [(0, vR l0), (1, vI l1)]) [0, 1] rfl ?_
    exact show mj_X g 25 [(0, vR l0), (1, vI l1)] [] M 0 0 from (xb_X11_told_25 hC hE l0 l1 M h)
  · replace h := mj_nn hc37 h
    refine mx_iload_n (j := 1) hC dX11_told_6 rfl rfl ?_
    refine mx_bipush (v := 22) hC dX11_told_7 (by decide) ?_
    refine mx_icmpge (tgt := 25) hC dX11_told_9 (by decide) (fun hc38 => ?_) (fun hc38 => ?_)
    · replace h := mj_yy hc38 h
      refine mx_sub (L' := [(0, vR l0), (1, vI l1)]) [0, 1] rfl ?_
      exact show mj_X g 25 [(0, vR l0), (1, vI l1)] [] M 0 0 from (xb_X11_told_25 hC hE l0 l1 M h)
    · replace h := mj_nn hc38 h
      refine mx_aload_n (j := 0) hC dX11_told_12 rfl rfl ?_
      obtain ⟨ht39, h⟩ := h
      refine mx_get (v := vR (mj_r M l0 4)) hC tf_X11_40 ht39 rfl dX11_told_13 ?_
      obtain ⟨ht40, h⟩ := h
      refine mx_get (v := vR (mj_r M (mj_r M l0 4) 0)) hC tf_X11_310 ht40 rfl dX11_told_16 ?_
      refine mx_iload_n (j := 1) hC dX11_told_19 rfl rfl ?_
      refine mx_bipush (v := 10) hC dX11_told_20 (by decide) ?_
      refine mx_isub hC dX11_told_22 ?_
      obtain ⟨ht41, h⟩ := h
      obtain ⟨hi42, h⟩ := h
      refine mx_iaload hC ht41 hi42 dX11_told_23 ?_
      exact mx_iret hC hE rfl dX11_told_24 h

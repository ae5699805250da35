/-! methods 2. By program (wip/gen) out of the bytecode: vc_KEY: what must hold of a call; ct_KEY: then the machine does it. -/
def rm_X9_hasRing : Room := { frames := 0, cells := 0, slots := 0, locals := 0 }
theorem dX9_hasRing_0 : decode cX9_hasRing 0 = .ok (.iload_n 1, 1) := by decide +kernel
theorem dX9_hasRing_1 : decode cX9_hasRing 1 = .ok (.istore_n 2, 1) := by decide +kernel
theorem dX9_hasRing_2 : decode cX9_hasRing 2 = .ok (.iconst 0, 1) := by decide +kernel
theorem dX9_hasRing_3 : decode cX9_hasRing 3 = .ok (.istore_n 3, 1) := by decide +kernel
theorem dX9_hasRing_4 : decode cX9_hasRing 4 = .ok (.iload_n 3, 1) := by decide +kernel
theorem dX9_hasRing_5 : decode cX9_hasRing 5 = .ok (.aload_n 0, 1) := by decide +kernel
theorem dX9_hasRing_6 : decode cX9_hasRing 6 = .ok (.getfield 34, 3) := by decide +kernel
theorem dX9_hasRing_9 : decode cX9_hasRing 9 = .ok (.if_icmp .ge 68, 3) := by decide +kernel
theorem dX9_hasRing_12 : decode cX9_hasRing 12 = .ok (.iload_n 2, 1) := by decide +kernel
theorem dX9_hasRing_13 : decode cX9_hasRing 13 = .ok (.ifCond .eq 64, 3) := by decide +kernel
theorem dX9_hasRing_16 : decode cX9_hasRing 16 = .ok (.iconst 0, 1) := by decide +kernel
theorem dX9_hasRing_17 : decode cX9_hasRing 17 = .ok (.istore 4, 2) := by decide +kernel
theorem dX9_hasRing_19 : decode cX9_hasRing 19 = .ok (.iconst 0, 1) := by decide +kernel
theorem dX9_hasRing_20 : decode cX9_hasRing 20 = .ok (.istore 5, 2) := by decide +kernel
theorem dX9_hasRing_22 : decode cX9_hasRing 22 = .ok (.iload 5, 2) := by decide +kernel
theorem dX9_hasRing_24 : decode cX9_hasRing 24 = .ok (.aload_n 0, 1) := by decide +kernel
theorem dX9_hasRing_25 : decode cX9_hasRing 25 = .ok (.getfield 34, 3) := by decide +kernel
theorem dX9_hasRing_28 : decode cX9_hasRing 28 = .ok (.if_icmp .ge 40, 3) := by decide +kernel
theorem dX9_hasRing_31 : decode cX9_hasRing 31 = .ok (.iload_n 2, 1) := by decide +kernel
theorem dX9_hasRing_32 : decode cX9_hasRing 32 = .ok (.iload 5, 2) := by decide +kernel
theorem dX9_hasRing_34 : decode cX9_hasRing 34 = .ok (.ishr, 1) := by decide +kernel
theorem dX9_hasRing_35 : decode cX9_hasRing 35 = .ok (.iconst 1, 1) := by decide +kernel
theorem dX9_hasRing_36 : decode cX9_hasRing 36 = .ok (.iand, 1) := by decide +kernel
theorem dX9_hasRing_37 : decode cX9_hasRing 37 = .ok (.iconst 1, 1) := by decide +kernel
theorem dX9_hasRing_38 : decode cX9_hasRing 38 = .ok (.if_icmp .ne 24, 3) := by decide +kernel
theorem dX9_hasRing_41 : decode cX9_hasRing 41 = .ok (.aload_n 0, 1) := by decide +kernel
theorem dX9_hasRing_42 : decode cX9_hasRing 42 = .ok (.getfield 27, 3) := by decide +kernel
theorem dX9_hasRing_45 : decode cX9_hasRing 45 = .ok (.iload 5, 2) := by decide +kernel
theorem dX9_hasRing_47 : decode cX9_hasRing 47 = .ok (.iaload, 1) := by decide +kernel
theorem dX9_hasRing_48 : decode cX9_hasRing 48 = .ok (.iload_n 2, 1) := by decide +kernel
theorem dX9_hasRing_49 : decode cX9_hasRing 49 = .ok (.iand, 1) := by decide +kernel
theorem dX9_hasRing_50 : decode cX9_hasRing 50 = .ok (.ifCond .eq 12, 3) := by decide +kernel
theorem dX9_hasRing_53 : decode cX9_hasRing 53 = .ok (.iload 4, 2) := by decide +kernel
theorem dX9_hasRing_55 : decode cX9_hasRing 55 = .ok (.iconst 1, 1) := by decide +kernel
theorem dX9_hasRing_56 : decode cX9_hasRing 56 = .ok (.iload 5, 2) := by decide +kernel
theorem dX9_hasRing_58 : decode cX9_hasRing 58 = .ok (.ishl, 1) := by decide +kernel
theorem dX9_hasRing_59 : decode cX9_hasRing 59 = .ok (.ior, 1) := by decide +kernel
theorem dX9_hasRing_60 : decode cX9_hasRing 60 = .ok (.istore 4, 2) := by decide +kernel
theorem dX9_hasRing_62 : decode cX9_hasRing 62 = .ok (.iinc 5 1, 3) := by decide +kernel
theorem dX9_hasRing_65 : decode cX9_hasRing 65 = .ok (.goto (-43), 3) := by decide +kernel
theorem dX9_hasRing_68 : decode cX9_hasRing 68 = .ok (.iload 4, 2) := by decide +kernel
theorem dX9_hasRing_70 : decode cX9_hasRing 70 = .ok (.istore_n 2, 1) := by decide +kernel
theorem dX9_hasRing_71 : decode cX9_hasRing 71 = .ok (.iinc 3 1, 3) := by decide +kernel
theorem dX9_hasRing_74 : decode cX9_hasRing 74 = .ok (.goto (-70), 3) := by decide +kernel
theorem dX9_hasRing_77 : decode cX9_hasRing 77 = .ok (.iload_n 2, 1) := by decide +kernel
theorem dX9_hasRing_78 : decode cX9_hasRing 78 = .ok (.ifCond .eq 7, 3) := by decide +kernel
theorem dX9_hasRing_81 : decode cX9_hasRing 81 = .ok (.iconst 1, 1) := by decide +kernel
theorem dX9_hasRing_82 : decode cX9_hasRing 82 = .ok (.goto 4, 3) := by decide +kernel
theorem dX9_hasRing_85 : decode cX9_hasRing 85 = .ok (.iconst 0, 1) := by decide +kernel
theorem dX9_hasRing_86 : decode cX9_hasRing 86 = .ok (.ireturn, 1) := by decide +kernel
def vb_X9_hasRing_22 (k4 : Nat → Int32 → Int32 → mj_M → Prop) (post : Bool → mj_M → Prop) : Nat → Nat → Int32 → Int32 → Int32 → Int32 → mj_M → Prop
  | 0 => fun _ _ _ _ _ _ => False
  | f + 1 => fun l0 l2 l3 l4 l5 M => mj_tag M l0 = 10 ∧ if (mj_i M l0 6) ≤ l5 then (k4 l0 l4 (l3 + 1) M) else (if ((l2 >>> (l5 &&& 31)) &&& 1) = 1 then (mj_tag M (mj_r M l0 5) = 101 ∧ vp_in l5 (mj_len M (mj_r M l0 5)) ∧ if ((mj_i M (mj_r M l0 5) (l5 : Int32).toNatClampNeg) &&& l2) = 0 then (vb_X9_hasRing_22 k4 post f l0 l2 l3 l4 (l5 + 1) M) else (vb_X9_hasRing_22 k4 post f l0 l2 l3 (l4 ||| (1 <<< (l5 &&& 31))) (l5 + 1) M)) else (vb_X9_hasRing_22 k4 post f l0 l2 l3 l4 (l5 + 1) M))
def vb_X9_hasRing_77 (post : Bool → mj_M → Prop) (l2 : Int32) (M : mj_M) : Prop := if l2 = 0 then (post false M) else (post true M)
def vb_X9_hasRing_4 (post : Bool → mj_M → Prop) : Nat → Nat → Int32 → Int32 → mj_M → Prop
  | 0 => fun _ _ _ _ => False
  | f + 1 => fun l0 l2 l3 M => mj_tag M l0 = 10 ∧ if (mj_i M l0 6) ≤ l3 then (vb_X9_hasRing_77 post l2 M) else (if l2 = 0 then (vb_X9_hasRing_77 post l2 M) else (∃ fe, vb_X9_hasRing_22 (vb_X9_hasRing_4 post f) post fe l0 l2 l3 0 0 M))
def vc_X9_hasRing (l0 : Nat) (l1 : Int32) (M : mj_M) (post : Bool → mj_M → Prop) : Prop := ∃ fe, vb_X9_hasRing_4 post fe l0 l1 0 M
set_option maxHeartbeats 4000000 in
set_option maxRecDepth 100000 in
theorem xb_X9_hasRing_22 {g : mj_G} {post : Bool → mj_M → Prop} (hC : mj_C g yX9_hasRing cX9_hasRing 6 (some .boolean) rm_X9_hasRing) (hE : mj_E g mj_jB post 0 0) {k4 : Nat → Int32 → Int32 → mj_M → Prop} (hk4 : ∀ (l0 : Nat) (l2 : Int32) (l3 : Int32) (M : mj_M), k4 l0 l2 l3 M → mj_X g 4 [(0, vR l0), (2, vI l2), (3, vI l3)] [] M 0 0) : ∀ (f : Nat) (l0 : Nat) (l2 : Int32) (l3 : Int32) (l4 : Int32) (l5 : Int32) (M : mj_M), vb_X9_hasRing_22 k4 post f l0 l2 l3 l4 l5 M → mj_X g 22 [(0, vR l0), (2, vI l2), (3, vI l3), (4, vI l4), (5, vI l5)] [] M 0 0 := by
  intro f
  induction f with
  | zero => exact fun _ _ _ _ _ _ h => absurd h (fun z => z)
  | succ f ih =>
    intro l0 l2 l3 l4 l5 M h
    simp only [vb_X9_hasRing_22] at h
    refine mx_iload (j := 4) hC dX9_hasRing_22 rfl ?_
    refine mx_aload_n (j := 0) hC dX9_hasRing_24 rfl rfl ?_
    obtain ⟨ht1, h⟩ := h
    refine mx_get (v := vI (mj_i M l0 6)) hC tf_X9_34 ht1 rfl dX9_hasRing_25 ?_
    refine mx_icmpge (tgt := 68) hC dX9_hasRing_28 (by decide) (fun hc2 => ?_) (fun hc2 => ?_)
    · replace h := mj_yy hc2 h
      refine mx_iload (j := 3) hC dX9_hasRing_68 rfl ?_
      refine mx_istore_n (L' := [(2, vI l4), (0, vR l0), (3, vI l3), (4, vI l4), (5, vI l5)]) hC dX9_hasRing_70 rfl (by decide) rfl ?_
      refine mx_iinc (j := 2) (v := l3 + 1) (L' := [(3, vI (l3 + 1)), (2, vI l4), (0, vR l0), (4, vI l4), (5, vI l5)]) hC dX9_hasRing_71 rfl rfl (by decide) rfl ?_
      refine mx_goto (tgt := 4) hC dX9_hasRing_74 (by decide) ?_
      refine mx_sub (L' := [(0, vR l0), (2, vI l4), (3, vI (l3 + 1))]) [2, 1, 0] rfl ?_
      exact show mj_X g 4 [(0, vR l0), (2, vI l4), (3, vI (l3 + 1))] [] M 0 0 from (hk4 l0 l4 (l3 + 1) M h)
    · replace h := mj_nn hc2 h
      refine mx_iload_n (j := 1) hC dX9_hasRing_31 rfl rfl ?_
      refine mx_iload (j := 4) hC dX9_hasRing_32 rfl ?_
      refine mx_ishr hC dX9_hasRing_34 ?_
      refine mx_iconst (v := 1) hC dX9_hasRing_35 (by decide) ?_
      refine mx_iand hC dX9_hasRing_36 ?_
      refine mx_iconst (v := 1) hC dX9_hasRing_37 (by decide) ?_
      refine mx_icmpne (tgt := 62) hC dX9_hasRing_38 (by decide) (fun hc3 => ?_) (fun hc3 => ?_)
      · replace h := mj_nn hc3 h
        refine mx_iinc (j := 4) (v := l5 + 1) (L' := [(5, vI (l5 + 1)), (0, vR l0), (2, vI l2), (3, vI l3), (4, vI l4)]) hC dX9_hasRing_62 rfl rfl (by decide) rfl ?_
        refine mx_goto (tgt := 22) hC dX9_hasRing_65 (by decide) ?_
        refine mx_sub (L' := [(0, vR l0), (2, vI l2), (3, vI l3), (4, vI l4), (5, vI (l5 + 1))]) [1, 2, 3, 4, 0] rfl ?_
        exact show mj_X g 22 [(0, vR l0), (2, vI l2), (3, vI l3), (4, vI l4), (5, vI (l5 + 1))] [] M 0 0 from (ih l0 l2 l3 l4 (l5 + 1) M h)
      · replace h := mj_yy hc3 h
        refine mx_aload_n (j := 0) hC dX9_hasRing_41 rfl rfl ?_
        refine mx_get (v := vR (mj_r M l0 5)) hC tf_X9_27 ht1 rfl dX9_hasRing_42 ?_
        refine mx_iload (j := 4) hC dX9_hasRing_45 rfl ?_
        obtain ⟨ht4, h⟩ := h
        obtain ⟨hi5, h⟩ := h
        refine mx_iaload hC ht4 hi5 dX9_hasRing_47 ?_
        refine mx_iload_n (j := 1) hC dX9_hasRing_48 rfl rfl ?_
        refine mx_iand hC dX9_hasRing_49 ?_
        refine mx_ifeq (tgt := 62) hC dX9_hasRing_50 (by decide) (fun hc6 => ?_) (fun hc6 => ?_)
        · replace h := mj_yy hc6 h
          refine mx_iinc (j := 4) (v := l5 + 1) (L' := [(5, vI (l5 + 1)), (0, vR l0), (2, vI l2), (3, vI l3), (4, vI l4)]) hC dX9_hasRing_62 rfl rfl (by decide) rfl ?_
          refine mx_goto (tgt := 22) hC dX9_hasRing_65 (by decide) ?_
          refine mx_sub (L' := [(0, vR l0), (2, vI l2), (3, vI l3), (4, vI l4), (5, vI (l5 + 1))]) [1, 2, 3, 4, 0] rfl ?_
          exact show mj_X g 22 [(0, vR l0), (2, vI l2), (3, vI l3), (4, vI l4), (5, vI (l5 + 1))] [] M 0 0 from (ih l0 l2 l3 l4 (l5 + 1) M h)
        · replace h := mj_nn hc6 h
          refine mx_iload (j := 3) hC dX9_hasRing_53 rfl ?_
          refine mx_iconst (v := 1) hC dX9_hasRing_55 (by decide) ?_
          refine mx_iload (j := 4) hC dX9_hasRing_56 rfl ?_
          refine mx_ishl hC dX9_hasRing_58 ?_
          refine mx_ior hC dX9_hasRing_59 ?_
          refine mx_istore (L' := [(4, vI (l4 ||| (1 <<< (l5 &&& 31)))), (0, vR l0), (2, vI l2), (3, vI l3), (5, vI l5)]) hC dX9_hasRing_60 (by decide) rfl ?_
          refine mx_iinc (j := 4) (v := l5 + 1) (L' := [(5, vI (l5 + 1)), (4, vI (l4 ||| (1 <<< (l5 &&& 31)))), (0, vR l0), (2, vI l2), (3, vI l3)]) hC dX9_hasRing_62 rfl rfl (by decide) rfl ?_
          refine mx_goto (tgt := 22) hC dX9_hasRing_65 (by decide) ?_
          refine mx_sub (L' := [(0, vR l0), (2, vI l2), (3, vI l3), (4, vI (l4 ||| (1 <<< (l5 &&& 31)))), (5, vI (l5 + 1))]) [2, 3, 4, 1, 0] rfl ?_
          exact show mj_X g 22 [(0, vR l0), (2, vI l2), (3, vI l3), (4, vI (l4 ||| (1 <<< (l5 &&& 31)))), (5, vI (l5 + 1))] [] M 0 0 from (ih l0 l2 l3 (l4 ||| (1 <<< (l5 &&& 31))) (l5 + 1) M h)
set_option maxHeartbeats 4000000 in
set_option maxRecDepth 100000 in
theorem xb_X9_hasRing_77 {g : mj_G} {post : Bool → mj_M → Prop} (hC : mj_C g yX9_hasRing cX9_hasRing 6 (some .boolean) rm_X9_hasRing) (hE : mj_E g mj_jB post 0 0) (l2 : Int32) (M : mj_M) (h : vb_X9_hasRing_77 post l2 M) : mj_X g 77 [(2, vI l2)] [] M 0 0 := by
  simp only [vb_X9_hasRing_77] at h
  refine mx_iload_n (j := 0) hC dX9_hasRing_77 rfl rfl ?_
  refine mx_ifeq (tgt := 85) hC dX9_hasRing_78 (by decide) (fun hc7 => ?_) (fun hc7 => ?_)
  · replace h := mj_yy hc7 h
    refine mx_iconst (v := 0) hC dX9_hasRing_85 (by decide) ?_
    exact mx_zret (b := false) hC hE rfl dX9_hasRing_86 h
  · replace h := mj_nn hc7 h
    refine mx_iconst (v := 1) hC dX9_hasRing_81 (by decide) ?_
    refine mx_goto (tgt := 86) hC dX9_hasRing_82 (by decide) ?_
    exact mx_zret (b := true) hC hE rfl dX9_hasRing_86 h
set_option maxHeartbeats 4000000 in
set_option maxRecDepth 100000 in
theorem xb_X9_hasRing_4 {g : mj_G} {post : Bool → mj_M → Prop} (hC : mj_C g yX9_hasRing cX9_hasRing 6 (some .boolean) rm_X9_hasRing) (hE : mj_E g mj_jB post 0 0) : ∀ (f : Nat) (l0 : Nat) (l2 : Int32) (l3 : Int32) (M : mj_M), vb_X9_hasRing_4 post f l0 l2 l3 M → mj_X g 4 [(0, vR l0), (2, vI l2), (3, vI l3)] [] M 0 0 := by
  intro f
  induction f with
  | zero => exact fun _ _ _ _ h => absurd h (fun z => z)
  | succ f ih =>
    intro l0 l2 l3 M h
    simp only [vb_X9_hasRing_4] at h
    refine mx_iload_n (j := 2) hC dX9_hasRing_4 rfl rfl ?_
    refine mx_aload_n (j := 0) hC dX9_hasRing_5 rfl rfl ?_
    obtain ⟨ht8, h⟩ := h
    refine mx_get (v := vI (mj_i M l0 6)) hC tf_X9_34 ht8 rfl dX9_hasRing_6 ?_
    refine mx_icmpge (tgt := 77) hC dX9_hasRing_9 (by decide) (fun hc9 => ?_) (fun hc9 => ?_)
    · replace h := mj_yy hc9 h
      refine mx_sub (L' := [(2, vI l2)]) [1] rfl ?_
      exact show mj_X g 77 [(2, vI l2)] [] M 0 0 from (xb_X9_hasRing_77 hC hE l2 M h)
    · replace h := mj_nn hc9 h
      refine mx_iload_n (j := 1) hC dX9_hasRing_12 rfl rfl ?_
      refine mx_ifeq (tgt := 77) hC dX9_hasRing_13 (by decide) (fun hc10 => ?_) (fun hc10 => ?_)
      · replace h := mj_yy hc10 h
        refine mx_sub (L' := [(2, vI l2)]) [1] rfl ?_
        exact show mj_X g 77 [(2, vI l2)] [] M 0 0 from (xb_X9_hasRing_77 hC hE l2 M h)
      · replace h := mj_nn hc10 h
        refine mx_iconst (v := 0) hC dX9_hasRing_16 (by decide) ?_
        refine mx_istore (L' := [(4, vI 0), (0, vR l0), (2, vI l2), (3, vI l3)]) hC dX9_hasRing_17 (by decide) rfl ?_
        refine mx_iconst (v := 0) hC dX9_hasRing_19 (by decide) ?_
        refine mx_istore (L' := [(5, vI 0), (4, vI 0), (0, vR l0), (2, vI l2), (3, vI l3)]) hC dX9_hasRing_20 (by decide) rfl ?_
        refine mx_sub (L' := [(0, vR l0), (2, vI l2), (3, vI l3), (4, vI 0), (5, vI 0)]) [2, 3, 4, 1, 0] rfl ?_
        obtain ⟨fe, h⟩ := h
        exact show mj_X g 22 [(0, vR l0), (2, vI l2), (3, vI l3), (4, vI 0), (5, vI 0)] [] M 0 0 from (xb_X9_hasRing_22 hC hE ih fe l0 l2 l3 0 0 M h)
set_option maxHeartbeats 4000000 in
set_option maxRecDepth 100000 in
theorem ct_X9_hasRing {l : Launch} {base : Nat} {D : va_G} {A : ClassId × ClassId × ClassId} (l0 : Nat) (l1 : Int32) (M : mj_M) (post : Bool → mj_M → Prop) (h : vc_X9_hasRing l0 l1 M post) : mj_Met l base D A mj_jB yX9_hasRing cX9_hasRing 6 (some .boolean) rm_X9_hasRing 0 0 [vR l0, vI l1] M post := by
  refine mj_entry (by decide +kernel) (Nat.le_of_ble_eq_true rfl) (fun g hC hE h1 h2 h3 h4 => ?_)
  show mj_X g 0 [(0, vR l0), (1, vI l1)] [] M 0 0
  simp only [vc_X9_hasRing] at h
  refine mx_iload_n (j := 1) hC dX9_hasRing_0 rfl rfl ?_
  refine mx_istore_n (L' := [(2, vI l1), (0, vR l0), (1, vI l1)]) hC dX9_hasRing_1 rfl (by decide) rfl ?_
  refine mx_iconst (v := 0) hC dX9_hasRing_2 (by decide) ?_
  refine mx_istore_n (L' := [(3, vI 0), (2, vI l1), (0, vR l0), (1, vI l1)]) hC dX9_hasRing_3 rfl (by decide) rfl ?_
  refine mx_sub (L' := [(0, vR l0), (2, vI l1), (3, vI 0)]) [2, 1, 0] rfl ?_
  obtain ⟨fe, h⟩ := h
  exact show mj_X g 4 [(0, vR l0), (2, vI l1), (3, vI 0)] [] M 0 0 from (xb_X9_hasRing_4 hC hE fe l0 l1 0 M h)
theorem tw1184 : (Jvm.Cond.methodLink "LeaseLand$Register" (41 : Nat) ({ cls := "LeaseLand$Register", name := "hasRing", desc := "(I)Z" } : Jvm.MethodName)) ∈ mj_tbl := mj_w 1237 (by decide +kernel) (by decide +kernel)
theorem tw1187 : (Jvm.Cond.code ({ cls := "LeaseLand$Register", name := "hasRing", desc := "(I)Z" } : Jvm.MethodName) prog_11_method_6_code (6 : Nat) (Option.some Jvm.ClassFile.FieldType.boolean)) ∈ mj_tbl := mj_w 1240 (by decide +kernel) (by decide +kernel)
theorem tw1185 : (Jvm.Cond.instanceMethod ({ cls := "LeaseLand$Register", name := "hasRing", desc := "(I)Z" } : Jvm.MethodName)) ∈ mj_tbl := mj_w 1238 (by decide +kernel) (by decide +kernel)
theorem tw1186 : (Jvm.Cond.selects "LeaseLand$Register" ({ cls := "LeaseLand$Register", name := "hasRing", desc := "(I)Z" } : Jvm.MethodName) ({ cls := "LeaseLand$Register", name := "hasRing", desc := "(I)Z" } : Jvm.MethodName)) ∈ mj_tbl := mj_w 1239 (by decide +kernel) (by decide +kernel)
theorem ty_X9_hasRing : mj_YV 9 yX9_hasRing cX9_hasRing 6 (some .boolean) 1 := ⟨⟨tw1187, tw10, by decide +kernel, by decide +kernel, by decide +kernel⟩, tw1185, tw1186, _, rfl, rfl⟩
def rm_X9_canBe : Room := { frames := 1, cells := 0, slots := 0, locals := 25 }
theorem dX9_canBe_0 : decode cX9_canBe 0 = .ok (.iconst 0, 1) := by decide +kernel
theorem dX9_canBe_1 : decode cX9_canBe 1 = .ok (.istore_n 2, 1) := by decide +kernel
theorem dX9_canBe_2 : decode cX9_canBe 2 = .ok (.iload_n 2, 1) := by decide +kernel
theorem dX9_canBe_3 : decode cX9_canBe 3 = .ok (.aload_n 0, 1) := by decide +kernel
theorem dX9_canBe_4 : decode cX9_canBe 4 = .ok (.getfield 34, 3) := by decide +kernel
theorem dX9_canBe_7 : decode cX9_canBe 7 = .ok (.if_icmp .ge 31, 3) := by decide +kernel
theorem dX9_canBe_10 : decode cX9_canBe 10 = .ok (.iload_n 1, 1) := by decide +kernel
theorem dX9_canBe_11 : decode cX9_canBe 11 = .ok (.iload_n 2, 1) := by decide +kernel
theorem dX9_canBe_12 : decode cX9_canBe 12 = .ok (.ishr, 1) := by decide +kernel
theorem dX9_canBe_13 : decode cX9_canBe 13 = .ok (.iconst 1, 1) := by decide +kernel
theorem dX9_canBe_14 : decode cX9_canBe 14 = .ok (.iand, 1) := by decide +kernel
theorem dX9_canBe_15 : decode cX9_canBe 15 = .ok (.iconst 1, 1) := by decide +kernel
theorem dX9_canBe_16 : decode cX9_canBe 16 = .ok (.if_icmp .ne 16, 3) := by decide +kernel
theorem dX9_canBe_19 : decode cX9_canBe 19 = .ok (.aload_n 0, 1) := by decide +kernel
theorem dX9_canBe_20 : decode cX9_canBe 20 = .ok (.getfield 24, 3) := by decide +kernel
theorem dX9_canBe_23 : decode cX9_canBe 23 = .ok (.iload_n 2, 1) := by decide +kernel
theorem dX9_canBe_24 : decode cX9_canBe 24 = .ok (.iaload, 1) := by decide +kernel
theorem dX9_canBe_25 : decode cX9_canBe 25 = .ok (.iload_n 1, 1) := by decide +kernel
theorem dX9_canBe_26 : decode cX9_canBe 26 = .ok (.iand, 1) := by decide +kernel
theorem dX9_canBe_27 : decode cX9_canBe 27 = .ok (.ifCond .eq 5, 3) := by decide +kernel
theorem dX9_canBe_30 : decode cX9_canBe 30 = .ok (.iconst 0, 1) := by decide +kernel
theorem dX9_canBe_31 : decode cX9_canBe 31 = .ok (.ireturn, 1) := by decide +kernel
theorem dX9_canBe_32 : decode cX9_canBe 32 = .ok (.iinc 2 1, 3) := by decide +kernel
theorem dX9_canBe_35 : decode cX9_canBe 35 = .ok (.goto (-33), 3) := by decide +kernel
theorem dX9_canBe_38 : decode cX9_canBe 38 = .ok (.aload_n 0, 1) := by decide +kernel
theorem dX9_canBe_39 : decode cX9_canBe 39 = .ok (.iload_n 1, 1) := by decide +kernel
theorem dX9_canBe_40 : decode cX9_canBe 40 = .ok (.invokevirtual 41, 3) := by decide +kernel
theorem dX9_canBe_43 : decode cX9_canBe 43 = .ok (.ifCond .ne 7, 3) := by decide +kernel
theorem dX9_canBe_46 : decode cX9_canBe 46 = .ok (.iconst 1, 1) := by decide +kernel
theorem dX9_canBe_47 : decode cX9_canBe 47 = .ok (.goto 4, 3) := by decide +kernel
theorem dX9_canBe_50 : decode cX9_canBe 50 = .ok (.iconst 0, 1) := by decide +kernel
theorem dX9_canBe_51 : decode cX9_canBe 51 = .ok (.ireturn, 1) := by decide +kernel
def vb_X9_canBe_2 (post : Bool → mj_M → Prop) : Nat → Nat → Int32 → Int32 → mj_M → Prop
  | 0 => fun _ _ _ _ => False
  | f + 1 => fun l0 l1 l2 M => mj_tag M l0 = 10 ∧ if (mj_i M l0 6) ≤ l2 then (vc_X9_hasRing l0 l1 M (fun r3 M4 => if r3 = true then (post false M4) else (post true M4))) else (if ((l1 >>> (l2 &&& 31)) &&& 1) = 1 then (mj_tag M (mj_r M l0 4) = 101 ∧ vp_in l2 (mj_len M (mj_r M l0 4)) ∧ if ((mj_i M (mj_r M l0 4) (l2 : Int32).toNatClampNeg) &&& l1) = 0 then (vb_X9_canBe_2 post f l0 l1 (l2 + 1) M) else (post false M)) else (vb_X9_canBe_2 post f l0 l1 (l2 + 1) M))
def vc_X9_canBe (l0 : Nat) (l1 : Int32) (M : mj_M) (post : Bool → mj_M → Prop) : Prop := ∃ fe, vb_X9_canBe_2 post fe l0 l1 0 M
set_option maxHeartbeats 4000000 in
set_option maxRecDepth 100000 in
theorem xb_X9_canBe_2 {g : mj_G} {post : Bool → mj_M → Prop} (hC : mj_C g yX9_canBe cX9_canBe 3 (some .boolean) rm_X9_canBe) (hE : mj_E g mj_jB post 0 0) : ∀ (f : Nat) (l0 : Nat) (l1 : Int32) (l2 : Int32) (M : mj_M), vb_X9_canBe_2 post f l0 l1 l2 M → mj_X g 2 [(0, vR l0), (1, vI l1), (2, vI l2)] [] M 0 0 := by
  intro f
  induction f with
  | zero => exact fun _ _ _ _ h => absurd h (fun z => z)
  | succ f ih =>
    intro l0 l1 l2 M h
    simp only [vb_X9_canBe_2] at h
    refine mx_iload_n (j := 2) hC dX9_canBe_2 rfl rfl ?_
    refine mx_aload_n (j := 0) hC dX9_canBe_3 rfl rfl ?_
    obtain ⟨ht1, h⟩ := h
    refine mx_get (v := vI (mj_i M l0 6)) hC tf_X9_34 ht1 rfl dX9_canBe_4 ?_
    refine mx_icmpge (tgt := 38) hC dX9_canBe_7 (by decide) (fun hc2 => ?_) (fun hc2 => ?_)
    · replace h := mj_yy hc2 h
      refine mx_aload_n (j := 0) hC dX9_canBe_38 rfl rfl ?_
      refine mx_iload_n (j := 1) hC dX9_canBe_39 rfl rfl ?_
      refine mx_callV (inj := mj_jB) (As := [vI l1]) (st := []) hC (ct_X9_hasRing l0 l1 M _ h) ty_X9_hasRing tw1184 ht1 rfl (Nat.le_of_ble_eq_true rfl) ⟨rfl, rfl, ⟨by decide, by decide⟩, by decide, by decide⟩ dX9_canBe_40 (fun r3 M4 h => ?_)
      show mj_X g 43 [(0, vR l0), (1, vI l1), (2, vI l2)] [vI (mj_b r3)] M4 0 0
      refine mx_ifneB (tgt := 50) hC dX9_canBe_43 (by decide) (fun hc5 => ?_) (fun hc5 => ?_)
      · replace h := mj_yy hc5 h
        refine mx_iconst (v := 0) hC dX9_canBe_50 (by decide) ?_
        exact mx_zret (b := false) hC hE rfl dX9_canBe_51 h
      · replace h := mj_nn hc5 h
        refine mx_iconst (v := 1) hC dX9_canBe_46 (by decide) ?_
        refine mx_goto (tgt := 51) hC dX9_canBe_47 (by decide) ?_
        exact mx_zret (b := true) hC hE rfl dX9_canBe_51 h
    · replace h := mj_nn hc2 h
      refine mx_iload_n (j := 1) hC dX9_canBe_10 rfl rfl ?_
      refine mx_iload_n (j := 2) hC dX9_canBe_11 rfl rfl ?_
      refine mx_ishr hC dX9_canBe_12 ?_
      refine mx_iconst (v := 1) hC dX9_canBe_13 (by decide) ?_
      refine mx_iand hC dX9_canBe_14 ?_
      refine mx_iconst (v := 1) hC dX9_canBe_15 (by decide) ?_
      refine mx_icmpne (tgt := 32) hC dX9_canBe_16 (by decide) (fun hc6 => ?_) (fun hc6 => ?_)
      · replace h := mj_nn hc6 h
        refine mx_iinc (j := 2) (v := l2 + 1) (L' := [(2, vI (l2 + 1)), (0, vR l0), (1, vI l1)]) hC dX9_canBe_32 rfl rfl (by decide) rfl ?_
        refine mx_goto (tgt := 2) hC dX9_canBe_35 (by decide) ?_
        refine mx_sub (L' := [(0, vR l0), (1, vI l1), (2, vI (l2 + 1))]) [1, 2, 0] rfl ?_
        exact show mj_X g 2 [(0, vR l0), (1, vI l1), (2, vI (l2 + 1))] [] M 0 0 from (ih l0 l1 (l2 + 1) M h)
      · replace h := mj_yy hc6 h
        refine mx_aload_n (j := 0) hC dX9_canBe_19 rfl rfl ?_
        refine mx_get (v := vR (mj_r M l0 4)) hC tf_X9_24 ht1 rfl dX9_canBe_20 ?_
        refine mx_iload_n (j := 2) hC dX9_canBe_23 rfl rfl ?_
        obtain ⟨ht7, h⟩ := h
        obtain ⟨hi8, h⟩ := h
        refine mx_iaload hC ht7 hi8 dX9_canBe_24 ?_
        refine mx_iload_n (j := 1) hC dX9_canBe_25 rfl rfl ?_
        refine mx_iand hC dX9_canBe_26 ?_
        refine mx_ifeq (tgt := 32) hC dX9_canBe_27 (by decide) (fun hc9 => ?_) (fun hc9 => ?_)
        · replace h := mj_yy hc9 h
          refine mx_iinc (j := 2) (v := l2 + 1) (L' := [(2, vI (l2 + 1)), (0, vR l0), (1, vI l1)]) hC dX9_canBe_32 rfl rfl (by decide) rfl ?_
          refine mx_goto (tgt := 2) hC dX9_canBe_35 (by decide) ?_
          refine mx_sub (L' := [(0, vR l0), (1, vI l1), (2, vI (l2 + 1))]) [1, 2, 0] rfl ?_
          exact show mj_X g 2 [(0, vR l0), (1, vI l1), (2, vI (l2 + 1))] [] M 0 0 from (ih l0 l1 (l2 + 1) M h)
        · replace h := mj_nn hc9 h
          refine mx_iconst (v := 0) hC dX9_canBe_30 (by decide) ?_
          exact mx_zret (b := false) hC hE rfl dX9_canBe_31 h
set_option maxHeartbeats 4000000 in
set_option maxRecDepth 100000 in
theorem ct_X9_canBe {l : Launch} {base : Nat} {D : va_G} {A : ClassId × ClassId × ClassId} (l0 : Nat) (l1 : Int32) (M : mj_M) (post : Bool → mj_M → Prop) (h : vc_X9_canBe l0 l1 M post) : mj_Met l base D A mj_jB yX9_canBe cX9_canBe 3 (some .boolean) rm_X9_canBe 0 0 [vR l0, vI l1] M post := by
  refine mj_entry (by decide +kernel) (Nat.le_of_ble_eq_true rfl) (fun g hC hE h1 h2 h3 h4 => ?_)
  show mj_X g 0 [(0, vR l0), (1, vI l1)] [] M 0 0
  simp only [vc_X9_canBe] at h
  refine mx_iconst (v := 0) hC dX9_canBe_0 (by decide) ?_
  refine mx_istore_n (L' := [(2, vI 0), (0, vR l0), (1, vI l1)]) hC dX9_canBe_1 rfl (by decide) rfl ?_
  refine mx_sub (L' := [(0, vR l0), (1, vI l1), (2, vI 0)]) [1, 2, 0] rfl ?_
  obtain ⟨fe, h⟩ := h
  exact show mj_X g 2 [(0, vR l0), (1, vI l1), (2, vI 0)] [] M 0 0 from (xb_X9_canBe_2 hC hE fe l0 l1 0 M h)
theorem tw1196 : (Jvm.Cond.methodLink "LeaseLand$Register" (45 : Nat) ({ cls := "LeaseLand$Register", name := "all", desc := "()I" } : Jvm.MethodName)) ∈ mj_tbl := mj_w 1249 (by decide +kernel) (by decide +kernel)
theorem tw1197 : (Jvm.Cond.methodLink "LeaseLand$Register" (49 : Nat) ({ cls := "java/lang/Integer", name := "bitCount", desc := "(I)I" } : Jvm.MethodName)) ∈ mj_tbl := mj_w 1250 (by decide +kernel) (by decide +kernel)
theorem tw1198 : (Jvm.Cond.methodLink "LeaseLand$Register" (55 : Nat) ({ cls := "LeaseLand$Register", name := "canBe", desc := "(I)Z" } : Jvm.MethodName)) ∈ mj_tbl := mj_w 1251 (by decide +kernel) (by decide +kernel)
theorem tw790 : (Jvm.Cond.code ({ cls := "java/lang/Integer", name := "bitCount", desc := "(I)I" } : Jvm.MethodName) prog_17_method_49_code (1 : Nat) (Option.some Jvm.ClassFile.FieldType.int)) ∈ mj_tbl := mj_w 843 (by decide +kernel) (by decide +kernel)
theorem tw21 : (Jvm.Cond.initialized "java/lang/Integer") ∈ mj_tbl := mj_w 74 (by decide +kernel) (by decide +kernel)
theorem tw789 : (Jvm.Cond.static ({ cls := "java/lang/Integer", name := "bitCount", desc := "(I)I" } : Jvm.MethodName)) ∈ mj_tbl := mj_w 842 (by decide +kernel) (by decide +kernel)
theorem ty_J6_bitCount_0f7a4 : mj_YS yJ6_bitCount_0f7a4 cJ6_bitCount_0f7a4 1 (some .int) 1 := ⟨⟨tw790, tw21, by decide +kernel, by decide +kernel, by decide +kernel⟩, tw789⟩
theorem tw1179 : (Jvm.Cond.code ({ cls := "LeaseLand$Register", name := "all", desc := "()I" } : Jvm.MethodName) prog_11_method_4_code (1 : Nat) (Option.some Jvm.ClassFile.FieldType.int)) ∈ mj_tbl := mj_w 1232 (by decide +kernel) (by decide +kernel)
theorem tw1177 : (Jvm.Cond.instanceMethod ({ cls := "LeaseLand$Register", name := "all", desc := "()I" } : Jvm.MethodName)) ∈ mj_tbl := mj_w 1230 (by decide +kernel) (by decide +kernel)
theorem tw1178 : (Jvm.Cond.selects "LeaseLand$Register" ({ cls := "LeaseLand$Register", name := "all", desc := "()I" } : Jvm.MethodName) ({ cls := "LeaseLand$Register", name := "all", desc := "()I" } : Jvm.MethodName)) ∈ mj_tbl := mj_w 1231 (by decide +kernel) (by decide +kernel)
theorem ty_X9_all : mj_YV 9 yX9_all cX9_all 1 (some .int) 0 := ⟨⟨tw1179, tw10, by decide +kernel, by decide +kernel, by decide +kernel⟩, tw1177, tw1178, _, rfl, rfl⟩
theorem tw1183 : (Jvm.Cond.code ({ cls := "LeaseLand$Register", name := "canBe", desc := "(I)Z" } : Jvm.MethodName) prog_11_method_5_code (3 : Nat) (Option.some Jvm.ClassFile.FieldType.boolean)) ∈ mj_tbl := mj_w 1236 (by decide +kernel) (by decide +kernel)
theorem tw1181 : (Jvm.Cond.instanceMethod ({ cls := "LeaseLand$Register", name := "canBe", desc := "(I)Z" } : Jvm.MethodName)) ∈ mj_tbl := mj_w 1234 (by decide +kernel) (by decide +kernel)
theorem tw1182 : (Jvm.Cond.selects "LeaseLand$Register" ({ cls := "LeaseLand$Register", name := "canBe", desc := "(I)Z" } : Jvm.MethodName) ({ cls := "LeaseLand$Register", name := "canBe", desc := "(I)Z" } : Jvm.MethodName)) ∈ mj_tbl := mj_w 1235 (by decide +kernel) (by decide +kernel)
theorem ty_X9_canBe : mj_YV 9 yX9_canBe cX9_canBe 3 (some .boolean) 1 := ⟨⟨tw1183, tw10, by decide +kernel, by decide +kernel, by decide +kernel⟩, tw1181, tw1182, _, rfl, rfl⟩
def rm_X9_fewestDoubted : Room := { frames := 2, cells := 0, slots := 0, locals := 47 }
theorem dX9_fewestDoubted_0 : decode cX9_fewestDoubted 0 = .ok (.aload_n 0, 1) := by decide +kernel
theorem dX9_fewestDoubted_1 : decode cX9_fewestDoubted 1 = .ok (.getfield 30, 3) := by decide +kernel
theorem dX9_fewestDoubted_4 : decode cX9_fewestDoubted 4 = .ok (.bipush (-6), 2) := by decide +kernel
theorem dX9_fewestDoubted_6 : decode cX9_fewestDoubted 6 = .ok (.if_icmp .eq 8, 3) := by decide +kernel
theorem dX9_fewestDoubted_9 : decode cX9_fewestDoubted 9 = .ok (.aload_n 0, 1) := by decide +kernel
theorem dX9_fewestDoubted_10 : decode cX9_fewestDoubted 10 = .ok (.getfield 30, 3) := by decide +kernel
theorem dX9_fewestDoubted_13 : decode cX9_fewestDoubted 13 = .ok (.ireturn, 1) := by decide +kernel
theorem dX9_fewestDoubted_14 : decode cX9_fewestDoubted 14 = .ok (.aload_n 0, 1) := by decide +kernel
theorem dX9_fewestDoubted_15 : decode cX9_fewestDoubted 15 = .ok (.getfield 34, 3) := by decide +kernel
theorem dX9_fewestDoubted_18 : decode cX9_fewestDoubted 18 = .ok (.istore_n 1, 1) := by decide +kernel
theorem dX9_fewestDoubted_19 : decode cX9_fewestDoubted 19 = .ok (.iconst 0, 1) := by decide +kernel
theorem dX9_fewestDoubted_20 : decode cX9_fewestDoubted 20 = .ok (.istore_n 2, 1) := by decide +kernel
theorem dX9_fewestDoubted_21 : decode cX9_fewestDoubted 21 = .ok (.iload_n 2, 1) := by decide +kernel
theorem dX9_fewestDoubted_22 : decode cX9_fewestDoubted 22 = .ok (.aload_n 0, 1) := by decide +kernel
theorem dX9_fewestDoubted_23 : decode cX9_fewestDoubted 23 = .ok (.invokevirtual 45, 3) := by decide +kernel
theorem dX9_fewestDoubted_26 : decode cX9_fewestDoubted 26 = .ok (.if_icmp .gt 34, 3) := by decide +kernel
theorem dX9_fewestDoubted_29 : decode cX9_fewestDoubted 29 = .ok (.aload_n 0, 1) := by decide +kernel
theorem dX9_fewestDoubted_30 : decode cX9_fewestDoubted 30 = .ok (.getfield 34, 3) := by decide +kernel
theorem dX9_fewestDoubted_33 : decode cX9_fewestDoubted 33 = .ok (.iload_n 2, 1) := by decide +kernel
theorem dX9_fewestDoubted_34 : decode cX9_fewestDoubted 34 = .ok (.invokestatic 49, 3) := by decide +kernel
theorem dX9_fewestDoubted_37 : decode cX9_fewestDoubted 37 = .ok (.isub, 1) := by decide +kernel
theorem dX9_fewestDoubted_38 : decode cX9_fewestDoubted 38 = .ok (.istore_n 3, 1) := by decide +kernel
theorem dX9_fewestDoubted_39 : decode cX9_fewestDoubted 39 = .ok (.iload_n 3, 1) := by decide +kernel
theorem dX9_fewestDoubted_40 : decode cX9_fewestDoubted 40 = .ok (.iload_n 1, 1) := by decide +kernel
theorem dX9_fewestDoubted_41 : decode cX9_fewestDoubted 41 = .ok (.if_icmp .ge 13, 3) := by decide +kernel
theorem dX9_fewestDoubted_44 : decode cX9_fewestDoubted 44 = .ok (.aload_n 0, 1) := by decide +kernel
theorem dX9_fewestDoubted_45 : decode cX9_fewestDoubted 45 = .ok (.iload_n 2, 1) := by decide +kernel
theorem dX9_fewestDoubted_46 : decode cX9_fewestDoubted 46 = .ok (.invokevirtual 55, 3) := by decide +kernel
theorem dX9_fewestDoubted_49 : decode cX9_fewestDoubted 49 = .ok (.ifCond .eq 5, 3) := by decide +kernel
theorem dX9_fewestDoubted_52 : decode cX9_fewestDoubted 52 = .ok (.iload_n 3, 1) := by decide +kernel
theorem dX9_fewestDoubted_53 : decode cX9_fewestDoubted 53 = .ok (.istore_n 1, 1) := by decide +kernel
theorem dX9_fewestDoubted_54 : decode cX9_fewestDoubted 54 = .ok (.iinc 2 1, 3) := by decide +kernel
theorem dX9_fewestDoubted_57 : decode cX9_fewestDoubted 57 = .ok (.goto (-36), 3) := by decide +kernel
theorem dX9_fewestDoubted_60 : decode cX9_fewestDoubted 60 = .ok (.aload_n 0, 1) := by decide +kernel
theorem dX9_fewestDoubted_61 : decode cX9_fewestDoubted 61 = .ok (.iload_n 1, 1) := by decide +kernel
theorem dX9_fewestDoubted_62 : decode cX9_fewestDoubted 62 = .ok (.putfield 30, 3) := by decide +kernel
theorem dX9_fewestDoubted_65 : decode cX9_fewestDoubted 65 = .ok (.iload_n 1, 1) := by decide +kernel
theorem dX9_fewestDoubted_66 : decode cX9_fewestDoubted 66 = .ok (.ireturn, 1) := by decide +kernel
def vb_X9_fewestDoubted_21 (post : Int32 → mj_M → Prop) : Nat → Nat → Int32 → Int32 → mj_M → Prop
  | 0 => fun _ _ _ _ => False
  | f + 1 => fun l0 l1 l2 M => mj_tag M l0 = 10 ∧ vc_X9_all l0 M (fun r2 M3 => if r2 < l2 then (mj_tag M3 l0 = 10 ∧ post l1 (mj_wi M3 l0 7 l1)) else (mj_tag M3 l0 = 10 ∧ vc_J6_bitCount_0f7a4 l2 M3 (fun r7 M8 => if l1 ≤ ((mj_i M3 l0 6) - r7) then (vb_X9_fewestDoubted_21 post f l0 l1 (l2 + 1) M8) else (mj_tag M8 l0 = 10 ∧ vc_X9_canBe l0 l2 M8 (fun r11 M12 => if r11 = true then (vb_X9_fewestDoubted_21 post f l0 ((mj_i M3 l0 6) - r7) (l2 + 1) M12) else (vb_X9_fewestDoubted_21 post f l0 l1 (l2 + 1) M12))))))
def vc_X9_fewestDoubted (l0 : Nat) (M : mj_M) (post : Int32 → mj_M → Prop) : Prop := mj_tag M l0 = 10 ∧ if (mj_i M l0 7) = ((-6)) then (∃ fe, vb_X9_fewestDoubted_21 post fe l0 (mj_i M l0 6) 0 M) else (post (mj_i M l0 7) M)
set_option maxHeartbeats 4000000 in
set_option maxRecDepth 100000 in
theorem xb_X9_fewestDoubted_21 {g : mj_G} {post : Int32 → mj_M → Prop} (hC : mj_C g yX9_fewestDoubted cX9_fewestDoubted 4 (some .int) rm_X9_fewestDoubted) (hE : mj_E g mj_jI post 0 0) : ∀ (f : Nat) (l0 : Nat) (l1 : Int32) (l2 : Int32) (M : mj_M), vb_X9_fewestDoubted_21 post f l0 l1 l2 M → mj_X g 21 [(0, vR l0), (1, vI l1), (2, vI l2)] [] M 0 0 := by
  intro f
  induction f with
  | zero => exact fun _ _ _ _ h => absurd h (fun z => z)
  | succ f ih =>
    intro l0 l1 l2 M h
    simp only [vb_X9_fewestDoubted_21] at h
    refine mx_iload_n (j := 2) hC dX9_fewestDoubted_21 rfl rfl ?_
    refine mx_aload_n (j := 0) hC dX9_fewestDoubted_22 rfl rfl ?_
    obtain ⟨ht1, h⟩ := h
    refine mx_callV (inj := mj_jI) (As := []) (st := [vI l2]) hC (ct_X9_all l0 M _ h) ty_X9_all tw1196 ht1 rfl (Nat.le_of_ble_eq_true rfl) ⟨rfl, rfl, ⟨by decide, by decide⟩, by decide, by decide⟩ dX9_fewestDoubted_23 (fun r2 M3 h => ?_)
    show mj_X g 26 [(0, vR l0), (1, vI l1), (2, vI l2)] [vI r2, vI l2] M3 0 0
    refine mx_icmpgt (tgt := 60) hC dX9_fewestDoubted_26 (by decide) (fun hc4 => ?_) (fun hc4 => ?_)
    · replace h := mj_yy hc4 h
      refine mx_aload_n (j := 0) hC dX9_fewestDoubted_60 rfl rfl ?_
      refine mx_iload_n (j := 1) hC dX9_fewestDoubted_61 rfl rfl ?_
      obtain ⟨ht5, h⟩ := h
      refine mx_put (v := vI l1) (M1 := mj_wi M3 l0 7 l1) hC tf_X9_30 ht5 (Or.inl rfl) ⟨rfl, rfl⟩ (mj_off_wi _ _ _ _) mj_put_wi dX9_fewestDoubted_62 ?_
      refine mx_iload_n (j := 1) hC dX9_fewestDoubted_65 rfl rfl ?_
      exact mx_iret hC hE rfl dX9_fewestDoubted_66 h
    · replace h := mj_nn hc4 h
      refine mx_aload_n (j := 0) hC dX9_fewestDoubted_29 rfl rfl ?_
      obtain ⟨ht6, h⟩ := h
      refine mx_get (v := vI (mj_i M3 l0 6)) hC tf_X9_34 ht6 rfl dX9_fewestDoubted_30 ?_
      refine mx_iload_n (j := 2) hC dX9_fewestDoubted_33 rfl rfl ?_
      refine mx_callS (inj := mj_jI) (As := [vI l2]) (st := [vI (mj_i M3 l0 6)]) hC (ct_J6_bitCount_0f7a4 l2 M3 _ h) ty_J6_bitCount_0f7a4 tw1197 rfl (Nat.le_of_ble_eq_true rfl) ⟨rfl, rfl, ⟨by decide, by decide⟩, by decide, by decide⟩ dX9_fewestDoubted_34 (fun r7 M8 h => ?_)
      show mj_X g 37 [(0, vR l0), (1, vI l1), (2, vI l2)] [vI r7, vI (mj_i M3 l0 6)] M8 0 0
      refine mx_isub hC dX9_fewestDoubted_37 ?_
      refine mx_istore_n (L' := [(3, vI ((mj_i M3 l0 6) - r7)), (0, vR l0), (1, vI l1), (2, vI l2)]) hC dX9_fewestDoubted_38 rfl (by decide) rfl ?_
      refine mx_iload_n (j := 0) hC dX9_fewestDoubted_39 rfl rfl ?_
      refine mx_iload_n (j := 2) hC dX9_fewestDoubted_40 rfl rfl ?_
      refine mx_icmpge (tgt := 54) hC dX9_fewestDoubted_41 (by decide) (fun hc9 => ?_) (fun hc9 => ?_)
      · replace h := mj_yy hc9 h
        refine mx_iinc (j := 3) (v := l2 + 1) (L' := [(2, vI (l2 + 1)), (3, vI ((mj_i M3 l0 6) - r7)), (0, vR l0), (1, vI l1)]) hC dX9_fewestDoubted_54 rfl rfl (by decide) rfl ?_
        refine mx_goto (tgt := 21) hC dX9_fewestDoubted_57 (by decide) ?_
        refine mx_sub (L' := [(0, vR l0), (1, vI l1), (2, vI (l2 + 1))]) [2, 3, 0] rfl ?_
        exact show mj_X g 21 [(0, vR l0), (1, vI l1), (2, vI (l2 + 1))] [] M8 0 0 from (ih l0 l1 (l2 + 1) M8 h)
      · replace h := mj_nn hc9 h
        refine mx_aload_n (j := 1) hC dX9_fewestDoubted_44 rfl rfl ?_
        refine mx_iload_n (j := 3) hC dX9_fewestDoubted_45 rfl rfl ?_
        obtain ⟨ht10, h⟩ := h
        refine mx_callV (inj := mj_jB) (As := [vI l2]) (st := []) hC (ct_X9_canBe l0 l2 M8 _ h) ty_X9_canBe tw1198 ht10 rfl (Nat.le_of_ble_eq_true rfl) ⟨rfl, rfl, ⟨by decide, by decide⟩, by decide, by decide⟩ dX9_fewestDoubted_46 (fun r11 M12 h => ?_)
        show mj_X g 49 [(3, vI ((mj_i M3 l0 6) - r7)), (0, vR l0), (1, vI l1), (2, vI l2)] [vI (mj_b r11)] M12 0 0
        refine mx_ifeqB (tgt := 54) hC dX9_fewestDoubted_49 (by decide) (fun hc13 => ?_) (fun hc13 => ?_)
        · replace h := mj_nn hc13 h
          refine mx_iinc (j := 3) (v := l2 + 1) (L' := [(2, vI (l2 + 1)), (3, vI ((mj_i M3 l0 6) - r7)), (0, vR l0), (1, vI l1)]) hC dX9_fewestDoubted_54 rfl rfl (by decide) rfl ?_
          refine mx_goto (tgt := 21) hC dX9_fewestDoubted_57 (by decide) ?_
          refine mx_sub (L' := [(0, vR l0), (1, vI l1), (2, vI (l2 + 1))]) [2, 3, 0] rfl ?_
          exact show mj_X g 21 [(0, vR l0), (1, vI l1), (2, vI (l2 + 1))] [] M12 0 0 from (ih l0 l1 (l2 + 1) M12 h)
        · replace h := mj_yy hc13 h
          refine mx_iload_n (j := 0) hC dX9_fewestDoubted_52 rfl rfl ?_
          refine mx_istore_n (L' := [(1, vI ((mj_i M3 l0 6) - r7)), (3, vI ((mj_i M3 l0 6) - r7)), (0, vR l0), (2, vI l2)]) hC dX9_fewestDoubted_53 rfl (by decide) rfl ?_
          refine mx_iinc (j := 3) (v := l2 + 1) (L' := [(2, vI (l2 + 1)), (1, vI ((mj_i M3 l0 6) - r7)), (3, vI ((mj_i M3 l0 6) - r7)), (0, vR l0)]) hC dX9_fewestDoubted_54 rfl rfl (by decide) rfl ?_
          refine mx_goto (tgt := 21) hC dX9_fewestDoubted_57 (by decide) ?_
          refine mx_sub (L' := [(0, vR l0), (1, vI ((mj_i M3 l0 6) - r7)), (2, vI (l2 + 1))]) [3, 1, 0] rfl ?_
          exact show mj_X g 21 [(0, vR l0), (1, vI ((mj_i M3 l0 6) - r7)), (2, vI (l2 + 1))] [] M12 0 0 from (ih l0 ((mj_i M3 l0 6) - r7) (l2 + 1) M12 h)
set_option maxHeartbeats 4000000 in
set_option maxRecDepth 100000 in
theorem ct_X9_fewestDoubted {l : Launch} {base : Nat} {D : va_G} {A : ClassId × ClassId × ClassId} (l0 : Nat) (M : mj_M) (post : Int32 → mj_M → Prop) (h : vc_X9_fewestDoubted l0 M post) : mj_Met l base D A mj_jI yX9_fewestDoubted cX9_fewestDoubted 4 (some .int) rm_X9_fewestDoubted 0 0 [vR l0] M post := by
  refine mj_entry (by decide +kernel) (Nat.le_of_ble_eq_true rfl) (fun g hC hE h1 h2 h3 h4 => ?_)
  show mj_X g 0 [(0, vR l0)] [] M 0 0
  simp only [vc_X9_fewestDoubted] at h
  refine mx_aload_n (j := 0) hC dX9_fewestDoubted_0 rfl rfl ?_
  obtain ⟨ht14, h⟩ := h
  refine mx_get (v := vI (mj_i M l0 7)) hC tf_X9_30 ht14 rfl dX9_fewestDoubted_1 ?_
  refine mx_bipush (v := (-6)) hC dX9_fewestDoubted_4 (by decide) ?_
  refine mx_icmpeq (tgt := 14) hC dX9_fewestDoubted_6 (by decide) (fun hc15 => ?_) (fun hc15 => ?_)
  · replace h := mj_yy hc15 h
    refine mx_aload_n (j := 0) hC dX9_fewestDoubted_14 rfl rfl ?_
    refine mx_get (v := vI (mj_i M l0 6)) hC tf_X9_34 ht14 rfl dX9_fewestDoubted_15 ?_
    refine mx_istore_n (L' := [(1, vI (mj_i M l0 6)), (0, vR l0)]) hC dX9_fewestDoubted_18 rfl (by decide) rfl ?_
    refine mx_iconst (v := 0) hC dX9_fewestDoubted_19 (by decide) ?_
    refine mx_istore_n (L' := [(2, vI 0), (1, vI (mj_i M l0 6)), (0, vR l0)]) hC dX9_fewestDoubted_20 rfl (by decide) rfl ?_
    refine mx_sub (L' := [(0, vR l0), (1, vI (mj_i M l0 6)), (2, vI 0)]) [2, 1, 0] rfl ?_
    obtain ⟨fe, h⟩ := h
    exact show mj_X g 21 [(0, vR l0), (1, vI (mj_i M l0 6)), (2, vI 0)] [] M 0 0 from (xb_X9_fewestDoubted_21 hC hE fe l0 (mj_i M l0 6) 0 M h)
  · replace h := mj_nn hc15 h
    refine mx_aload_n (j := 0) hC dX9_fewestDoubted_9 rfl rfl ?_
    refine mx_get (v := vI (mj_i M l0 7)) hC tf_X9_30 ht14 rfl dX9_fewestDoubted_10 ?_
    exact mx_iret hC hE rfl dX9_fewestDoubted_13 h
theorem tw48 : (Jvm.Cond.fieldLink "LeaseLand$Land" (15 : Nat) "LeaseLand$Land" "weights" "[I") ∈ mj_tbl := mj_w 101 (by decide +kernel) (by decide +kernel)
theorem tk4 : mj_KC 4 (RX4, TX4, 6, tyX4) := ⟨rfl, fun w hw => List.mem_filter.mpr ⟨(goodIn_r (big := lw_tbl) (u_ws RX4 TX4 6) [103, 105, 107, 109, 111, 113] (by decide +kernel) (by decide +kernel) w hw).1, List.all_eq_true.mp (show (u_ws RX4 TX4 6).all goodWord = true by decide +kernel) w hw⟩, tyX4_ok, nmX4, by decide⟩
theorem tf_X4_15 : mj_F 4 5 (.array .int) true "LeaseLand$Land" 15 := ⟨_, tk4, by decide, rfl, rfl, rfl, tw48⟩
theorem tw46 : (Jvm.Cond.fieldLink "LeaseLand$Land" (9 : Nat) "LeaseLand$Land" "homes" "[I") ∈ mj_tbl := mj_w 99 (by decide +kernel) (by decide +kernel)
theorem tf_X4_9 : mj_F 4 4 (.array .int) true "LeaseLand$Land" 9 := ⟨_, tk4, by decide, rfl, rfl, rfl, tw46⟩
theorem tw36 : (Jvm.Cond.methodLink "LeaseLand$Land" (3 : Nat) ({ cls := "java/lang/Object", name := "<init>", desc := "()V" } : Jvm.MethodName)) ∈ mj_tbl := mj_w 89 (by decide +kernel) (by decide +kernel)
theorem tw37 : (Jvm.Cond.methodLink "LeaseLand$Land" (18 : Nat) ({ cls := "java/util/Arrays", name := "fill", desc := "([II)V" } : Jvm.MethodName)) ∈ mj_tbl := mj_w 90 (by decide +kernel) (by decide +kernel)
theorem tw39 : (Jvm.Cond.code ({ cls := "java/util/Arrays", name := "fill", desc := "([II)V" } : Jvm.MethodName) prog_23_method_103_code (4 : Nat) (Option.none : Option Jvm.ClassFile.FieldType)) ∈ mj_tbl := mj_w 92 (by decide +kernel) (by decide +kernel)
theorem tw3 : (Jvm.Cond.initialized "java/util/Arrays") ∈ mj_tbl := mj_w 56 (by decide +kernel) (by decide +kernel)
theorem tw38 : (Jvm.Cond.static ({ cls := "java/util/Arrays", name := "fill", desc := "([II)V" } : Jvm.MethodName)) ∈ mj_tbl := mj_w 91 (by decide +kernel) (by decide +kernel)
theorem ty_J7_fill_53178 : mj_YS yJ7_fill_53178 cJ7_fill_53178 4 (none) 2 := ⟨⟨tw39, tw3, by decide +kernel, by decide +kernel, by decide +kernel⟩, tw38⟩
def rm_X4_init : Room := { frames := 1, cells := 2, slots := 22, locals := 23 }
theorem dX4_init_0 : decode cX4_init 0 = .ok (.aload_n 0, 1) := by decide +kernel
theorem dX4_init_1 : decode cX4_init 1 = .ok (.invokespecial 3, 3) := by decide +kernel
theorem dX4_init_4 : decode cX4_init 4 = .ok (.aload_n 0, 1) := by decide +kernel
theorem dX4_init_5 : decode cX4_init 5 = .ok (.bipush 10, 2) := by decide +kernel
theorem dX4_init_7 : decode cX4_init 7 = .ok (.newarray .int, 2) := by decide +kernel
theorem dX4_init_9 : decode cX4_init 9 = .ok (.putfield 9, 3) := by decide +kernel
theorem dX4_init_12 : decode cX4_init 12 = .ok (.aload_n 0, 1) := by decide +kernel
theorem dX4_init_13 : decode cX4_init 13 = .ok (.bipush 12, 2) := by decide +kernel
theorem dX4_init_15 : decode cX4_init 15 = .ok (.newarray .int, 2) := by decide +kernel
theorem dX4_init_17 : decode cX4_init 17 = .ok (.putfield 15, 3) := by decide +kernel
theorem dX4_init_20 : decode cX4_init 20 = .ok (.aload_n 0, 1) := by decide +kernel
theorem dX4_init_21 : decode cX4_init 21 = .ok (.getfield 9, 3) := by decide +kernel
theorem dX4_init_24 : decode cX4_init 24 = .ok (.bipush (-6), 2) := by decide +kernel
theorem dX4_init_26 : decode cX4_init 26 = .ok (.invokestatic 18, 3) := by decide +kernel
theorem dX4_init_29 : decode cX4_init 29 = .ok (.aload_n 0, 1) := by decide +kernel
theorem dX4_init_30 : decode cX4_init 30 = .ok (.getfield 15, 3) := by decide +kernel
theorem dX4_init_33 : decode cX4_init 33 = .ok (.iconst 1, 1) := by decide +kernel
theorem dX4_init_34 : decode cX4_init 34 = .ok (.invokestatic 18, 3) := by decide +kernel
theorem dX4_init_37 : decode cX4_init 37 = .ok (.return_, 1) := by decide +kernel
def vc_X4_init (l0 : Nat) (M : mj_M) (post : Unit → mj_M → Prop) : Prop := (¬ l0 = 0) ∧ ∀ M2 : mj_M, M2 = mj_newa M 101 10 → mj_tag M2 l0 = 5 ∧ ∀ M5 : mj_M, M5 = mj_newa (mj_wr M2 l0 4 (mj_nx M)) 101 12 → mj_tag M5 l0 = 5 ∧ vc_J7_fill_53178 (mj_r (mj_wr M5 l0 5 (mj_nx M2)) l0 4) ((-6)) (mj_wr M5 l0 5 (mj_nx M2)) (fun _ M8 => mj_tag M8 l0 = 5 ∧ vc_J7_fill_53178 (mj_r M8 l0 5) 1 M8 (fun _ M10 => post () M10))
set_option maxHeartbeats 4000000 in
set_option maxRecDepth 100000 in
theorem ct_X4_init {l : Launch} {base : Nat} {D : va_G} {A : ClassId × ClassId × ClassId} (l0 : Nat) (M : mj_M) (post : Unit → mj_M → Prop) (h : vc_X4_init l0 M post) : mj_Met l base D A mj_jV yX4_init cX4_init 1 (none) rm_X4_init 2 22 [vR l0] M post := by
  refine mj_entry (by decide +kernel) (Nat.le_of_ble_eq_true rfl) (fun g hC hE h1 h2 h3 h4 => ?_)
  show mj_X g 0 [(0, vR l0)] [] M 0 0
  simp only [vc_X4_init] at h
  refine mx_aload_n (j := 0) hC dX4_init_0 rfl rfl ?_
  obtain ⟨hn1, h⟩ := h
  refine mx_oinit hC tw36 tw_oi tw_oc hn1 (Nat.le_of_ble_eq_true rfl) ⟨by decide, by decide⟩ dX4_init_1 ?_
  refine mx_aload_n (j := 0) hC dX4_init_4 rfl rfl ?_
  refine mx_bipush (v := 10) hC dX4_init_5 (by decide) ?_
  refine mx_newi (N := 10) (k' := 1) (n' := 10) hC tw63 (by decide) (by decide) (by decide) ⟨rfl, by decide, by decide, by decide⟩ dX4_init_7 ?_
  obtain ⟨M2, eM2⟩ : ∃ z : mj_M, z = mj_newa M 101 10 := ⟨_, rfl⟩
  replace h := h M2 eM2
  have ht3 : mj_tag M2 (mj_nx M) = 101 := by rw [eM2]; exact mj_u1_at _
  refine mx_setM eM2.symm ?_
  obtain ⟨ht4, h⟩ := h
  refine mx_put (v := vR (mj_nx M)) (M1 := mj_wr M2 l0 4 (mj_nx M)) hC tf_X4_9 ht4 (Or.inr ⟨rfl, rfl⟩) (mj_fitA (mj_nx M) _) (mj_off_wr _ _ _ _) mj_put_wa dX4_init_9 ?_
  refine mx_aload_n (j := 0) hC dX4_init_12 rfl rfl ?_
  refine mx_bipush (v := 12) hC dX4_init_13 (by decide) ?_
  refine mx_newi (N := 12) (k' := 2) (n' := 22) hC tw63 (by decide) (by decide) (by decide) ⟨rfl, by decide, by decide, by decide⟩ dX4_init_15 ?_
  obtain ⟨M5, eM5⟩ : ∃ z : mj_M, z = mj_newa (mj_wr M2 l0 4 (mj_nx M)) 101 12 := ⟨_, rfl⟩
  replace h := h M5 eM5
  have ht6 : mj_tag M5 (mj_nx M2) = 101 := by rw [eM5]; exact mj_u1_at _
  refine mx_setM eM5.symm ?_
  obtain ⟨ht7, h⟩ := h
  refine mx_put (v := vR (mj_nx M2)) (M1 := mj_wr M5 l0 5 (mj_nx M2)) hC tf_X4_15 ht7 (Or.inr ⟨rfl, rfl⟩) (mj_fitA (mj_nx M2) _) (mj_off_wr _ _ _ _) mj_put_wa dX4_init_17 ?_
  refine mx_aload_n (j := 0) hC dX4_init_20 rfl rfl ?_
  refine mx_get (v := vR (mj_r (mj_wr M5 l0 5 (mj_nx M2)) l0 4)) hC tf_X4_9 ht7 rfl dX4_init_21 ?_
  refine mx_bipush (v := (-6)) hC dX4_init_24 (by decide) ?_
  refine mx_callS (inj := mj_jV) (As := [vR (mj_r (mj_wr M5 l0 5 (mj_nx M2)) l0 4), vI ((-6))]) (st := []) hC (ct_J7_fill_53178 (mj_r (mj_wr M5 l0 5 (mj_nx M2)) l0 4) ((-6)) (mj_wr M5 l0 5 (mj_nx M2)) _ h) ty_J7_fill_53178 tw37 rfl (Nat.le_of_ble_eq_true rfl) ⟨rfl, rfl, ⟨by decide, by decide⟩, by decide, by decide⟩ dX4_init_26 (fun _ M8 h => ?_)
  show mj_X g 29 [(0, vR l0)] [] M8 2 22
  refine mx_aload_n (j := 0) hC dX4_init_29 rfl rfl ?_
  obtain ⟨ht9, h⟩ := h
  refine mx_get (v := vR (mj_r M8 l0 5)) hC tf_X4_15 ht9 rfl dX4_init_30 ?_
  refine mx_iconst (v := 1) hC dX4_init_33 (by decide) ?_
  refine mx_callS (inj := mj_jV) (As := [vR (mj_r M8 l0 5), vI 1]) (st := []) hC (ct_J7_fill_53178 (mj_r M8 l0 5) 1 M8 _ h) ty_J7_fill_53178 tw37 rfl (Nat.le_of_ble_eq_true rfl) ⟨rfl, rfl, ⟨by decide, by decide⟩, by decide, by decide⟩ dX4_init_34 (fun _ M10 h => ?_)
  show mj_X g 37 [(0, vR l0)] [] M10 2 22
  exact mx_vret hC hE rfl dX4_init_37 h
theorem tw44 : (Jvm.Cond.fieldLink "LeaseLand$Land" (24 : Nat) "LeaseLand$Land" "count" "I") ∈ mj_tbl := mj_w 97 (by decide +kernel) (by decide +kernel)
theorem tf_X4_24 : mj_F 4 3 .int false "LeaseLand$Land" 24 := ⟨_, tk4, by decide, rfl, rfl, rfl, tw44⟩
def rm_X4_isFull : Room := { frames := 0, cells := 0, slots := 0, locals := 0 }
theorem dX4_isFull_0 : decode cX4_isFull 0 = .ok (.aload_n 0, 1) := by decide +kernel
theorem dX4_isFull_1 : decode cX4_isFull 1 = .ok (.getfield 24, 3) := by decide +kernel
theorem dX4_isFull_4 : decode cX4_isFull 4 = .ok (.bipush 40, 2) := by decide +kernel
theorem dX4_isFull_6 : decode cX4_isFull 6 = .ok (.if_icmp .ne 7, 3) := by decide +kernel
theorem dX4_isFull_9 : decode cX4_isFull 9 = .ok (.iconst 1, 1) := by decide +kernel
theorem dX4_isFull_10 : decode cX4_isFull 10 = .ok (.goto 4, 3) := by decide +kernel
theorem dX4_isFull_13 : decode cX4_isFull 13 = .ok (.iconst 0, 1) := by decide +kernel
theorem dX4_isFull_14 : decode cX4_isFull 14 = .ok (.ireturn, 1) := by decide +kernel
def vc_X4_isFull (l0 : Nat) (M : mj_M) (post : Bool → mj_M → Prop) : Prop := mj_tag M l0 = 5 ∧ if (mj_i M l0 3) = 40 then (post true M) else (post false M)
set_option maxHeartbeats 4000000 in
set_option maxRecDepth 100000 in
theorem ct_X4_isFull {l : Launch} {base : Nat} {D : va_G} {A : ClassId × ClassId × ClassId} (l0 : Nat) (M : mj_M) (post : Bool → mj_M → Prop) (h : vc_X4_isFull l0 M post) : mj_Met l base D A mj_jB yX4_isFull cX4_isFull 1 (some .boolean) rm_X4_isFull 0 0 [vR l0] M post := by
  refine mj_entry (by decide +kernel) (Nat.le_of_ble_eq_true rfl) (fun g hC hE h1 h2 h3 h4 => ?_)
  show mj_X g 0 [(0, vR l0)] [] M 0 0
  simp only [vc_X4_isFull] at h
  refine mx_aload_n (j := 0) hC dX4_isFull_0 rfl rfl ?_
  obtain ⟨ht1, h⟩ := h
  refine mx_get (v := vI (mj_i M l0 3)) hC tf_X4_24 ht1 rfl dX4_isFull_1 ?_
  refine mx_bipush (v := 40) hC dX4_isFull_4 (by decide) ?_
  refine mx_icmpne (tgt := 13) hC dX4_isFull_6 (by decide) (fun hc2 => ?_) (fun hc2 => ?_)
  · replace h := mj_nn hc2 h
    refine mx_iconst (v := 0) hC dX4_isFull_13 (by decide) ?_
    exact mx_zret (b := false) hC hE rfl dX4_isFull_14 h
  · replace h := mj_yy hc2 h
    refine mx_iconst (v := 1) hC dX4_isFull_9 (by decide) ?_
    refine mx_goto (tgt := 14) hC dX4_isFull_10 (by decide) ?_
    exact mx_zret (b := true) hC hE rfl dX4_isFull_14 h
theorem tw41 : (Jvm.Cond.fieldLink "LeaseLand$Land" (28 : Nat) "LeaseLand$Land" "today" "I") ∈ mj_tbl := mj_w 94 (by decide +kernel) (by decide +kernel)
theorem tf_X4_28 : mj_F 4 0 .int false "LeaseLand$Land" 28 := ⟨_, tk4, by decide, rfl, rfl, rfl, tw41⟩
theorem tw462 : (Jvm.Cond.methodLink "LeaseLand$Land" (31 : Nat) ({ cls := "LeaseLand$Holding", name := "isInForce", desc := "(I)Z" } : Jvm.MethodName)) ∈ mj_tbl := mj_w 515 (by decide +kernel) (by decide +kernel)
def rm_X4_isInForce : Room := { frames := 2, cells := 0, slots := 0, locals := 41 }
theorem dX4_isInForce_0 : decode cX4_isInForce 0 = .ok (.aload_n 1, 1) := by decide +kernel
theorem dX4_isInForce_1 : decode cX4_isInForce 1 = .ok (.aload_n 0, 1) := by decide +kernel
theorem dX4_isInForce_2 : decode cX4_isInForce 2 = .ok (.getfield 28, 3) := by decide +kernel
theorem dX4_isInForce_5 : decode cX4_isInForce 5 = .ok (.invokevirtual 31, 3) := by decide +kernel
theorem dX4_isInForce_8 : decode cX4_isInForce 8 = .ok (.ireturn, 1) := by decide +kernel
def vc_X4_isInForce (l0 : Nat) (l1 : Nat) (M : mj_M) (post : Bool → mj_M → Prop) : Prop := mj_tag M l0 = 5 ∧ mj_tag M l1 = 4 ∧ vc_X3_isInForce l1 (mj_i M l0 0) M (fun r3 M4 => post r3 M4)
set_option maxHeartbeats 4000000 in
set_option maxRecDepth 100000 in
theorem ct_X4_isInForce {l : Launch} {base : Nat} {D : va_G} {A : ClassId × ClassId × ClassId} (l0 : Nat) (l1 : Nat) (M : mj_M) (post : Bool → mj_M → Prop) (h : vc_X4_isInForce l0 l1 M post) : mj_Met l base D A mj_jB yX4_isInForce cX4_isInForce 2 (some .boolean) rm_X4_isInForce 0 0 [vR l0, vR l1] M post := by
  refine mj_entry (by decide +kernel) (Nat.le_of_ble_eq_true rfl) (fun g hC hE h1 h2 h3 h4 => ?_)
  show mj_X g 0 [(0, vR l0), (1, vR l1)] [] M 0 0
  simp only [vc_X4_isInForce] at h
  refine mx_aload_n (j := 1) hC dX4_isInForce_0 rfl rfl ?_
  refine mx_aload_n (j := 0) hC dX4_isInForce_1 rfl rfl ?_
  obtain ⟨ht1, h⟩ := h
  refine mx_get (v := vI (mj_i M l0 0)) hC tf_X4_28 ht1 rfl dX4_isInForce_2 ?_
  obtain ⟨ht2, h⟩ := h
  refine mx_callV (inj := mj_jB) (As := [vI (mj_i M l0 0)]) (st := []) hC (ct_X3_isInForce l1 (mj_i M l0 0) M _ h) ty_X3_isInForce tw462 ht2 rfl (Nat.le_of_ble_eq_true rfl) ⟨rfl, rfl, ⟨by decide, by decide⟩, by decide, by decide⟩ dX4_isInForce_5 (fun r3 M4 h => ?_)
  show mj_X g 8 [(0, vR l0), (1, vR l1)] [vI (mj_b r3)] M4 0 0
  exact mx_zret (b := r3) hC hE rfl dX4_isInForce_8 h
theorem tw42 : (Jvm.Cond.fieldLink "LeaseLand$Land" (37 : Nat) "LeaseLand$Land" "first" "LLeaseLand$Holding;") ∈ mj_tbl := mj_w 95 (by decide +kernel) (by decide +kernel)
theorem tf_X4_37 : mj_F 4 1 (.object "LeaseLand$Holding") false "LeaseLand$Land" 37 := ⟨_, tk4, by decide, rfl, rfl, rfl, tw42⟩
theorem tw318 : (Jvm.Cond.fieldLink "LeaseLand$Land" (41 : Nat) "LeaseLand$Holding" "number" "I") ∈ mj_tbl := mj_w 371 (by decide +kernel) (by decide +kernel)
theorem tf_X4_41 : mj_F 3 0 .int false "LeaseLand$Land" 41 := ⟨_, tk3, by decide, rfl, rfl, rfl, tw318⟩
theorem tw320 : (Jvm.Cond.fieldLink "LeaseLand$Land" (44 : Nat) "LeaseLand$Holding" "next" "LLeaseLand$Holding;") ∈ mj_tbl := mj_w 373 (by decide +kernel) (by decide +kernel)
theorem tf_X4_44 : mj_F 3 1 (.object "LeaseLand$Holding") false "LeaseLand$Land" 44 := ⟨_, tk3, by decide, rfl, rfl, rfl, tw320⟩
def rm_X4_find : Room := { frames := 0, cells := 0, slots := 0, locals := 0 }
theorem dX4_find_0 : decode cX4_find 0 = .ok (.aload_n 0, 1) := by decide +kernel
theorem dX4_find_1 : decode cX4_find 1 = .ok (.getfield 37, 3) := by decide +kernel
theorem dX4_find_4 : decode cX4_find 4 = .ok (.astore_n 2, 1) := by decide +kernel
theorem dX4_find_5 : decode cX4_find 5 = .ok (.aload_n 2, 1) := by decide +kernel
theorem dX4_find_6 : decode cX4_find 6 = .ok (.ifnull 21, 3) := by decide +kernel
theorem dX4_find_9 : decode cX4_find 9 = .ok (.aload_n 2, 1) := by decide +kernel
theorem dX4_find_10 : decode cX4_find 10 = .ok (.getfield 41, 3) := by decide +kernel
theorem dX4_find_13 : decode cX4_find 13 = .ok (.iload_n 1, 1) := by decide +kernel
theorem dX4_find_14 : decode cX4_find 14 = .ok (.if_icmp .ne 5, 3) := by decide +kernel
theorem dX4_find_17 : decode cX4_find 17 = .ok (.aload_n 2, 1) := by decide +kernel
theorem dX4_find_18 : decode cX4_find 18 = .ok (.areturn, 1) := by decide +kernel
theorem dX4_find_19 : decode cX4_find 19 = .ok (.aload_n 2, 1) := by decide +kernel
theorem dX4_find_20 : decode cX4_find 20 = .ok (.getfield 44, 3) := by decide +kernel
theorem dX4_find_23 : decode cX4_find 23 = .ok (.astore_n 2, 1) := by decide +kernel
theorem dX4_find_24 : decode cX4_find 24 = .ok (.goto (-19), 3) := by decide +kernel
theorem dX4_find_27 : decode cX4_find 27 = .ok (.aconst_null, 1) := by decide +kernel
theorem dX4_find_28 : decode cX4_find 28 = .ok (.areturn, 1) := by decide +kernel
def vb_X4_find_5 (post : Nat → mj_M → Prop) : Nat → Int32 → Nat → mj_M → Prop
  | 0 => fun _ _ _ => False
  | f + 1 => fun l1 l2 M => if l2 = 0 then (post 0 M) else (mj_tag M l2 = 4 ∧ if (mj_i M l2 0) = l1 then (post l2 M) else (vb_X4_find_5 post f l1 (mj_r M l2 1) M))
def vc_X4_find (l0 : Nat) (l1 : Int32) (M : mj_M) (post : Nat → mj_M → Prop) : Prop := mj_tag M l0 = 5 ∧ ∃ fe, vb_X4_find_5 post fe l1 (mj_r M l0 1) M
set_option maxHeartbeats 4000000 in
set_option maxRecDepth 100000 in
theorem xb_X4_find_5 {g : mj_G} {post : Nat → mj_M → Prop} (hC : mj_C g yX4_find cX4_find 3 (some (.object "LeaseLand$Holding")) rm_X4_find) (hE : mj_E g mj_jR post 0 0) : ∀ (f : Nat) (l1 : Int32) (l2 : Nat) (M : mj_M), vb_X4_find_5 post f l1 l2 M → mj_X g 5 [(1, vI l1), (2, vR l2)] [] M 0 0 := by
  intro f
  induction f with
  | zero => exact fun _ _ _ h => absurd h (fun z => z)
  | succ f ih =>
    intro l1 l2 M h
    simp only [vb_X4_find_5] at h
    refine mx_aload_n (j := 1) hC dX4_find_5 rfl rfl ?_
    refine mx_ifnull (tgt := 27) hC dX4_find_6 (by decide) (fun hc1 => ?_) (fun hc1 => ?_)
    · replace h := mj_yy hc1 h
      refine mx_null hC dX4_find_27 ?_
      exact mx_aret hC hE rfl (Or.inl ⟨_, rfl⟩) dX4_find_28 h
    · replace h := mj_nn hc1 h
      refine mx_aload_n (j := 1) hC dX4_find_9 rfl rfl ?_
      obtain ⟨ht2, h⟩ := h
      refine mx_get (v := vI (mj_i M l2 0)) hC tf_X4_41 ht2 rfl dX4_find_10 ?_
      refine mx_iload_n (j := 0) hC dX4_find_13 rfl rfl ?_
      refine mx_icmpne (tgt := 19) hC dX4_find_14 (by decide) (fun hc3 => ?_) (fun hc3 => ?_)
      · replace h := mj_nn hc3 h
        refine mx_aload_n (j := 1) hC dX4_find_19 rfl rfl ?_
        refine mx_get (v := vR (mj_r M l2 1)) hC tf_X4_44 ht2 rfl dX4_find_20 ?_
        refine mx_astore_n (L' := [(2, vR (mj_r M l2 1)), (1, vI l1)]) hC dX4_find_23 rfl (by decide) rfl ?_
        refine mx_goto (tgt := 5) hC dX4_find_24 (by decide) ?_
        refine mx_sub (L' := [(1, vI l1), (2, vR (mj_r M l2 1))]) [1, 0] rfl ?_
        exact show mj_X g 5 [(1, vI l1), (2, vR (mj_r M l2 1))] [] M 0 0 from (ih l1 (mj_r M l2 1) M h)
      · replace h := mj_yy hc3 h
        refine mx_aload_n (j := 1) hC dX4_find_17 rfl rfl ?_
        exact mx_aret hC hE rfl (Or.inl ⟨_, rfl⟩) dX4_find_18 h
set_option maxHeartbeats 4000000 in
set_option maxRecDepth 100000 in
theorem ct_X4_find {l : Launch} {base : Nat} {D : va_G} {A : ClassId × ClassId × ClassId} (l0 : Nat) (l1 : Int32) (M : mj_M) (post : Nat → mj_M → Prop) (h : vc_X4_find l0 l1 M post) : mj_Met l base D A mj_jR yX4_find cX4_find 3 (some (.object "LeaseLand$Holding")) rm_X4_find 0 0 [vR l0, vI l1] M post := by
  refine mj_entry (by decide +kernel) (Nat.le_of_ble_eq_true rfl) (fun g hC hE h1 h2 h3 h4 => ?_)
  show mj_X g 0 [(0, vR l0), (1, vI l1)] [] M 0 0
  simp only [vc_X4_find] at h
  refine mx_aload_n (j := 0) hC dX4_find_0 rfl rfl ?_
  obtain ⟨ht4, h⟩ := h
  refine mx_get (v := vR (mj_r M l0 1)) hC tf_X4_37 ht4 rfl dX4_find_1 ?_
  refine mx_astore_n (L' := [(2, vR (mj_r M l0 1)), (0, vR l0), (1, vI l1)]) hC dX4_find_4 rfl (by decide) rfl ?_
  refine mx_sub (L' := [(1, vI l1), (2, vR (mj_r M l0 1))]) [2, 0] rfl ?_
  obtain ⟨fe, h⟩ := h
  exact show mj_X g 5 [(1, vI l1), (2, vR (mj_r M l0 1))] [] M 0 0 from (xb_X4_find_5 hC hE fe l1 (mj_r M l0 1) M h)
theorem tw322 : (Jvm.Cond.fieldLink "LeaseLand$Land" (51 : Nat) "LeaseLand$Holding" "out" "LLeaseLand$Holding;") ∈ mj_tbl := mj_w 375 (by decide +kernel) (by decide +kernel)
theorem tf_X4_51 : mj_F 3 2 (.object "LeaseLand$Holding") false "LeaseLand$Land" 51 := ⟨_, tk3, by decide, rfl, rfl, rfl, tw322⟩
theorem tw474 : (Jvm.Cond.methodLink "LeaseLand$Land" (47 : Nat) ({ cls := "LeaseLand$Land", name := "find", desc := "(I)LLeaseLand$Holding;" } : Jvm.MethodName)) ∈ mj_tbl := mj_w 527 (by decide +kernel) (by decide +kernel)
theorem tw400 : (Jvm.Cond.code ({ cls := "LeaseLand$Land", name := "find", desc := "(I)LLeaseLand$Holding;" } : Jvm.MethodName) prog_6_method_4_code (3 : Nat) (Option.some (Jvm.ClassFile.FieldType.object "LeaseLand$Holding"))) ∈ mj_tbl := mj_w 453 (by decide +kernel) (by decide +kernel)
theorem tw2 : (Jvm.Cond.initialized "LeaseLand$Land") ∈ mj_tbl := mj_w 55 (by decide +kernel) (by decide +kernel)
theorem tw398 : (Jvm.Cond.instanceMethod ({ cls := "LeaseLand$Land", name := "find", desc := "(I)LLeaseLand$Holding;" } : Jvm.MethodName)) ∈ mj_tbl := mj_w 451 (by decide +kernel) (by decide +kernel)
theorem tw399 : (Jvm.Cond.selects "LeaseLand$Land" ({ cls := "LeaseLand$Land", name := "find", desc := "(I)LLeaseLand$Holding;" } : Jvm.MethodName) ({ cls := "LeaseLand$Land", name := "find", desc := "(I)LLeaseLand$Holding;" } : Jvm.MethodName)) ∈ mj_tbl := mj_w 452 (by decide +kernel) (by decide +kernel)
theorem ty_X4_find : mj_YV 4 yX4_find cX4_find 3 (some (.object "LeaseLand$Holding")) 1 := ⟨⟨tw400, tw2, by decide +kernel, by decide +kernel, by decide +kernel⟩, tw398, tw399, _, rfl, rfl⟩
def rm_X4_findLease : Room := { frames := 1, cells := 0, slots := 0, locals := 22 }
theorem dX4_findLease_0 : decode cX4_findLease 0 = .ok (.aload_n 0, 1) := by decide +kernel
theorem dX4_findLease_1 : decode cX4_findLease 1 = .ok (.iload_n 1, 1) := by decide +kernel
theorem dX4_findLease_2 : decode cX4_findLease 2 = .ok (.invokevirtual 47, 3) := by decide +kernel
theorem dX4_findLease_5 : decode cX4_findLease 5 = .ok (.astore_n 2, 1) := by decide +kernel
theorem dX4_findLease_6 : decode cX4_findLease 6 = .ok (.aload_n 2, 1) := by decide +kernel
theorem dX4_findLease_7 : decode cX4_findLease 7 = .ok (.ifnull 14, 3) := by decide +kernel
theorem dX4_findLease_10 : decode cX4_findLease 10 = .ok (.aload_n 2, 1) := by decide +kernel
theorem dX4_findLease_11 : decode cX4_findLease 11 = .ok (.getfield 51, 3) := by decide +kernel
theorem dX4_findLease_14 : decode cX4_findLease 14 = .ok (.ifnull 7, 3) := by decide +kernel
theorem dX4_findLease_17 : decode cX4_findLease 17 = .ok (.aload_n 2, 1) := by decide +kernel
theorem dX4_findLease_18 : decode cX4_findLease 18 = .ok (.goto 4, 3) := by decide +kernel
theorem dX4_findLease_21 : decode cX4_findLease 21 = .ok (.aconst_null, 1) := by decide +kernel
theorem dX4_findLease_22 : decode cX4_findLease 22 = .ok (.areturn, 1) := by decide +kernel
def vc_X4_findLease (l0 : Nat) (l1 : Int32) (M : mj_M) (post : Nat → mj_M → Prop) : Prop := mj_tag M l0 = 5 ∧ vc_X4_find l0 l1 M (fun r2 M3 => if r2 = 0 then (post 0 M3) else (mj_tag M3 r2 = 4 ∧ if (mj_r M3 r2 2) = 0 then (post 0 M3) else (post r2 M3)))
set_option maxHeartbeats 4000000 in
set_option maxRecDepth 100000 in
theorem ct_X4_findLease {l : Launch} {base : Nat} {D : va_G} {A : ClassId × ClassId × ClassId} (l0 : Nat) (l1 : Int32) (M : mj_M) (post : Nat → mj_M → Prop) (h : vc_X4_findLease l0 l1 M post) : mj_Met l base D A mj_jR yX4_findLease cX4_findLease 3 (some (.object "LeaseLand$Holding")) rm_X4_findLease 0 0 [vR l0, vI l1] M post := by
  refine mj_entry (by decide +kernel) (Nat.le_of_ble_eq_true rfl) (fun g hC hE h1 h2 h3 h4 => ?_)
  show mj_X g 0 [(0, vR l0), (1, vI l1)] [] M 0 0
  simp only [vc_X4_findLease] at h
  refine mx_aload_n (j := 0) hC dX4_findLease_0 rfl rfl ?_
  refine mx_iload_n (j := 1) hC dX4_findLease_1 rfl rfl ?_
  obtain ⟨ht1, h⟩ := h
  refine mx_callV (inj := mj_jR) (As := [vI l1]) (st := []) hC (ct_X4_find l0 l1 M _ h) ty_X4_find tw474 ht1 rfl (Nat.le_of_ble_eq_true rfl) ⟨rfl, rfl, ⟨by decide, by decide⟩, by decide, by decide⟩ dX4_findLease_2 (fun r2 M3 h => ?_)
  show mj_X g 5 [(0, vR l0), (1, vI l1)] [vR r2] M3 0 0
  refine mx_astore_n (L' := [(2, vR r2), (0, vR l0), (1, vI l1)]) hC dX4_findLease_5 rfl (by decide) rfl ?_
  refine mx_aload_n (j := 0) hC dX4_findLease_6 rfl rfl ?_
  refine mx_ifnull (tgt := 21) hC dX4_findLease_7 (by decide) (fun hc4 => ?_) (fun hc4 => ?_)
  · replace h := mj_yy hc4 h
    refine mx_null hC dX4_findLease_21 ?_
    exact mx_aret hC hE rfl (Or.inl ⟨_, rfl⟩) dX4_findLease_22 h
  · replace h := mj_nn hc4 h
    refine mx_aload_n (j := 0) hC dX4_findLease_10 rfl rfl ?_
    obtain ⟨ht5, h⟩ := h
    refine mx_get (v := vR (mj_r M3 r2 2)) hC tf_X4_51 ht5 rfl dX4_findLease_11 ?_
    refine mx_ifnull (tgt := 21) hC dX4_findLease_14 (by decide) (fun hc6 => ?_) (fun hc6 => ?_)
    · replace h := mj_yy hc6 h
      refine mx_null hC dX4_findLease_21 ?_
      exact mx_aret hC hE rfl (Or.inl ⟨_, rfl⟩) dX4_findLease_22 h
    · replace h := mj_nn hc6 h
      refine mx_aload_n (j := 0) hC dX4_findLease_17 rfl rfl ?_
      refine mx_goto (tgt := 22) hC dX4_findLease_18 (by decide) ?_
      exact mx_aret hC hE rfl (Or.inl ⟨_, rfl⟩) dX4_findLease_22 h
def rm_X4_findWhole : Room := { frames := 1, cells := 0, slots := 0, locals := 22 }
theorem dX4_findWhole_0 : decode cX4_findWhole 0 = .ok (.aload_n 0, 1) := by decide +kernel
theorem dX4_findWhole_1 : decode cX4_findWhole 1 = .ok (.iload_n 1, 1) := by decide +kernel
theorem dX4_findWhole_2 : decode cX4_findWhole 2 = .ok (.invokevirtual 47, 3) := by decide +kernel
theorem dX4_findWhole_5 : decode cX4_findWhole 5 = .ok (.astore_n 2, 1) := by decide +kernel
theorem dX4_findWhole_6 : decode cX4_findWhole 6 = .ok (.aload_n 2, 1) := by decide +kernel
theorem dX4_findWhole_7 : decode cX4_findWhole 7 = .ok (.ifnull 14, 3) := by decide +kernel
theorem dX4_findWhole_10 : decode cX4_findWhole 10 = .ok (.aload_n 2, 1) := by decide +kernel
theorem dX4_findWhole_11 : decode cX4_findWhole 11 = .ok (.getfield 51, 3) := by decide +kernel
theorem dX4_findWhole_14 : decode cX4_findWhole 14 = .ok (.ifnonnull 7, 3) := by decide +kernel
theorem dX4_findWhole_17 : decode cX4_findWhole 17 = .ok (.aload_n 2, 1) := by decide +kernel
theorem dX4_findWhole_18 : decode cX4_findWhole 18 = .ok (.goto 4, 3) := by decide +kernel
theorem dX4_findWhole_21 : decode cX4_findWhole 21 = .ok (.aconst_null, 1) := by decide +kernel
theorem dX4_findWhole_22 : decode cX4_findWhole 22 = .ok (.areturn, 1) := by decide +kernel
def vc_X4_findWhole (l0 : Nat) (l1 : Int32) (M : mj_M) (post : Nat → mj_M → Prop) : Prop := mj_tag M l0 = 5 ∧ vc_X4_find l0 l1 M (fun r2 M3 => if r2 = 0 then (post 0 M3) else (mj_tag M3 r2 = 4 ∧ if (mj_r M3 r2 2) = 0 then (post r2 M3) else (post 0 M3)))
set_option maxHeartbeats 4000000 in
set_option maxRecDepth 100000 in
theorem ct_X4_findWhole {l : Launch} {base : Nat} {D : va_G} {A : ClassId × ClassId × ClassId} (l0 : Nat) (l1 : Int32) (M : mj_M) (post : Nat → mj_M → Prop) (h : vc_X4_findWhole l0 l1 M post) : mj_Met l base D A mj_jR yX4_findWhole cX4_findWhole 3 (some (.object "LeaseLand$Holding")) rm_X4_findWhole 0 0 [vR l0, vI l1] M post := by
  refine mj_entry (by decide +kernel) (Nat.le_of_ble_eq_true rfl) (fun g hC hE h1 h2 h3 h4 => ?_)
  show mj_X g 0 [(0, vR l0), (1, vI l1)] [] M 0 0
  simp only [vc_X4_findWhole] at h
  refine mx_aload_n (j := 0) hC dX4_findWhole_0 rfl rfl ?_
  refine mx_iload_n (j := 1) hC dX4_findWhole_1 rfl rfl ?_
  obtain ⟨ht1, h⟩ := h
  refine mx_callV (inj := mj_jR) (As := [vI l1]) (st := []) hC (ct_X4_find l0 l1 M _ h) ty_X4_find tw474 ht1 rfl (Nat.le_of_ble_eq_true rfl) ⟨rfl, rfl, ⟨by decide, by decide⟩, by decide, by decide⟩ dX4_findWhole_2 (fun r2 M3 h => ?_)
  show mj_X g 5 [(0, vR l0), (1, vI l1)] [vR r2] M3 0 0
  refine mx_astore_n (L' := [(2, vR r2), (0, vR l0), (1, vI l1)]) hC dX4_findWhole_5 rfl (by decide) rfl ?_
  refine mx_aload_n (j := 0) hC dX4_findWhole_6 rfl rfl ?_
  refine mx_ifnull (tgt := 21) hC dX4_findWhole_7 (by decide) (fun hc4 => ?_) (fun hc4 => ?_)
  · replace h := mj_yy hc4 h
    refine mx_null hC dX4_findWhole_21 ?_
    exact mx_aret hC hE rfl (Or.inl ⟨_, rfl⟩) dX4_findWhole_22 h
  · replace h := mj_nn hc4 h
    refine mx_aload_n (j := 0) hC dX4_findWhole_10 rfl rfl ?_
    obtain ⟨ht5, h⟩ := h
    refine mx_get (v := vR (mj_r M3 r2 2)) hC tf_X4_51 ht5 rfl dX4_findWhole_11 ?_
    refine mx_ifnonnull (tgt := 21) hC dX4_findWhole_14 (by decide) (fun hc6 => ?_) (fun hc6 => ?_)
    · replace h := mj_nn hc6 h
      refine mx_null hC dX4_findWhole_21 ?_
      exact mx_aret hC hE rfl (Or.inl ⟨_, rfl⟩) dX4_findWhole_22 h
    · replace h := mj_yy hc6 h
      refine mx_aload_n (j := 0) hC dX4_findWhole_17 rfl rfl ?_
      refine mx_goto (tgt := 22) hC dX4_findWhole_18 (by decide) ?_
      exact mx_aret hC hE rfl (Or.inl ⟨_, rfl⟩) dX4_findWhole_22 h
theorem tw43 : (Jvm.Cond.fieldLink "LeaseLand$Land" (54 : Nat) "LeaseLand$Land" "last" "LLeaseLand$Holding;") ∈ mj_tbl := mj_w 96 (by decide +kernel) (by decide +kernel)
theorem tf_X4_54 : mj_F 4 2 (.object "LeaseLand$Holding") false "LeaseLand$Land" 54 := ⟨_, tk4, by decide, rfl, rfl, rfl, tw43⟩
def rm_X4_add : Room := { frames := 0, cells := 0, slots := 0, locals := 0 }
theorem dX4_add_0 : decode cX4_add 0 = .ok (.aload_n 1, 1) := by decide +kernel
theorem dX4_add_1 : decode cX4_add 1 = .ok (.aload_n 0, 1) := by decide +kernel
theorem dX4_add_2 : decode cX4_add 2 = .ok (.getfield 24, 3) := by decide +kernel
theorem dX4_add_5 : decode cX4_add 5 = .ok (.putfield 41, 3) := by decide +kernel
theorem dX4_add_8 : decode cX4_add 8 = .ok (.aload_n 0, 1) := by decide +kernel
theorem dX4_add_9 : decode cX4_add 9 = .ok (.getfield 54, 3) := by decide +kernel
theorem dX4_add_12 : decode cX4_add 12 = .ok (.ifnonnull 11, 3) := by decide +kernel
theorem dX4_add_15 : decode cX4_add 15 = .ok (.aload_n 0, 1) := by decide +kernel
theorem dX4_add_16 : decode cX4_add 16 = .ok (.aload_n 1, 1) := by decide +kernel
theorem dX4_add_17 : decode cX4_add 17 = .ok (.putfield 37, 3) := by decide +kernel
theorem dX4_add_20 : decode cX4_add 20 = .ok (.goto 11, 3) := by decide +kernel
theorem dX4_add_23 : decode cX4_add 23 = .ok (.aload_n 0, 1) := by decide +kernel
theorem dX4_add_24 : decode cX4_add 24 = .ok (.getfield 54, 3) := by decide +kernel
theorem dX4_add_27 : decode cX4_add 27 = .ok (.aload_n 1, 1) := by decide +kernel
theorem dX4_add_28 : decode cX4_add 28 = .ok (.putfield 44, 3) := by decide +kernel
theorem dX4_add_31 : decode cX4_add 31 = .ok (.aload_n 0, 1) := by decide +kernel
theorem dX4_add_32 : decode cX4_add 32 = .ok (.aload_n 1, 1) := by decide +kernel
theorem dX4_add_33 : decode cX4_add 33 = .ok (.putfield 54, 3) := by decide +kernel
theorem dX4_add_36 : decode cX4_add 36 = .ok (.aload_n 0, 1) := by decide +kernel
theorem dX4_add_37 : decode cX4_add 37 = .ok (.dup, 1) := by decide +kernel
theorem dX4_add_38 : decode cX4_add 38 = .ok (.getfield 24, 3) := by decide +kernel
theorem dX4_add_41 : decode cX4_add 41 = .ok (.iconst 1, 1) := by decide +kernel
theorem dX4_add_42 : decode cX4_add 42 = .ok (.iadd, 1) := by decide +kernel
theorem dX4_add_43 : decode cX4_add 43 = .ok (.putfield 24, 3) := by decide +kernel
theorem dX4_add_46 : decode cX4_add 46 = .ok (.aload_n 1, 1) := by decide +kernel
theorem dX4_add_47 : decode cX4_add 47 = .ok (.getfield 41, 3) := by decide +kernel
theorem dX4_add_50 : decode cX4_add 50 = .ok (.ireturn, 1) := by decide +kernel
def vb_X4_add_31 (post : Int32 → mj_M → Prop) (l0 : Nat) (l1 : Nat) (M : mj_M) : Prop := mj_tag M l0 = 5 ∧ mj_tag M l1 = 4 ∧ post (mj_i (mj_wi (mj_wr M l0 2 l1) l0 3 ((mj_i M l0 3) + 1)) l1 0) (mj_wi (mj_wr M l0 2 l1) l0 3 ((mj_i M l0 3) + 1))
def vc_X4_add (l0 : Nat) (l1 : Nat) (M : mj_M) (post : Int32 → mj_M → Prop) : Prop := mj_tag M l0 = 5 ∧ mj_tag M l1 = 4 ∧ if (mj_r M l0 2) = 0 then (vb_X4_add_31 post l0 l1 (mj_wr (mj_wi M l1 0 (mj_i M l0 3)) l0 1 l1)) else (mj_tag M (mj_r M l0 2) = 4 ∧ vb_X4_add_31 post l0 l1 (mj_wr (mj_wi M l1 0 (mj_i M l0 3)) (mj_r M l0 2) 1 l1))
set_option maxHeartbeats 4000000 in
set_option maxRecDepth 100000 in
theorem xb_X4_add_31 {g : mj_G} {post : Int32 → mj_M → Prop} (hC : mj_C g yX4_add cX4_add 2 (some .int) rm_X4_add) (hE : mj_E g mj_jI post 0 0) (l0 : Nat) (l1 : Nat) (M : mj_M) (h : vb_X4_add_31 post l0 l1 M) : mj_X g 31 [(0, vR l0), (1, vR l1)] [] M 0 0 := by
  simp only [vb_X4_add_31] at h
  refine mx_aload_n (j := 0) hC dX4_add_31 rfl rfl ?_
  refine mx_aload_n (j := 1) hC dX4_add_32 rfl rfl ?_
  obtain ⟨ht1, h⟩ := h
  refine mx_put (v := vR l1) (M1 := mj_wr M l0 2 l1) hC tf_X4_54 ht1 (Or.inl rfl) (mj_fitR l1 _) (mj_off_wr _ _ _ _) mj_put_wr dX4_add_33 ?_
  refine mx_aload_n (j := 0) hC dX4_add_36 rfl rfl ?_
  refine mx_dup hC dX4_add_37 rfl ?_
  refine mx_get (v := vI (mj_i M l0 3)) hC tf_X4_24 ht1 rfl dX4_add_38 ?_
  refine mx_iconst (v := 1) hC dX4_add_41 (by decide) ?_
  refine mx_iadd hC dX4_add_42 ?_
  refine mx_put (v := vI ((mj_i M l0 3) + 1)) (M1 := mj_wi (mj_wr M l0 2 l1) l0 3 ((mj_i M l0 3) + 1)) hC tf_X4_24 ht1 (Or.inl rfl) ⟨rfl, rfl⟩ (mj_off_wi _ _ _ _) mj_put_wi dX4_add_43 ?_
  refine mx_aload_n (j := 1) hC dX4_add_46 rfl rfl ?_
  obtain ⟨ht2, h⟩ := h
  refine mx_get (v := vI (mj_i (mj_wi (mj_wr M l0 2 l1) l0 3 ((mj_i M l0 3) + 1)) l1 0)) hC tf_X4_41 ht2 rfl dX4_add_47 ?_
  exact mx_iret hC hE rfl dX4_add_50 h
set_option maxHeartbeats 4000000 in
set_option maxRecDepth 100000 in
theorem ct_X4_add {l : Launch} {base : Nat} {D : va_G} {A : ClassId × ClassId × ClassId} (l0 : Nat) (l1 : Nat) (M : mj_M) (post : Int32 → mj_M → Prop) (h : vc_X4_add l0 l1 M post) : mj_Met l base D A mj_jI yX4_add cX4_add 2 (some .int) rm_X4_add 0 0 [vR l0, vR l1] M post := by
  refine mj_entry (by decide +kernel) (Nat.le_of_ble_eq_true rfl) (fun g hC hE h1 h2 h3 h4 => ?_)
  show mj_X g 0 [(0, vR l0), (1, vR l1)] [] M 0 0
  simp only [vc_X4_add] at h
  refine mx_aload_n (j := 1) hC dX4_add_0 rfl rfl ?_
  refine mx_aload_n (j := 0) hC dX4_add_1 rfl rfl ?_
  obtain ⟨ht3, h⟩ := h
  refine mx_get (v := vI (mj_i M l0 3)) hC tf_X4_24 ht3 rfl dX4_add_2 ?_
  obtain ⟨ht4, h⟩ := h
  refine mx_put (v := vI (mj_i M l0 3)) (M1 := mj_wi M l1 0 (mj_i M l0 3)) hC tf_X4_41 ht4 (Or.inl rfl) ⟨rfl, rfl⟩ (mj_off_wi _ _ _ _) mj_put_wi dX4_add_5 ?_
  refine mx_aload_n (j := 0) hC dX4_add_8 rfl rfl ?_
  refine mx_get (v := vR (mj_r M l0 2)) hC tf_X4_54 ht3 rfl dX4_add_9 ?_
  refine mx_ifnonnull (tgt := 23) hC dX4_add_12 (by decide) (fun hc5 => ?_) (fun hc5 => ?_)
  · replace h := mj_nn hc5 h
    refine mx_aload_n (j := 0) hC dX4_add_23 rfl rfl ?_
    refine mx_get (v := vR (mj_r M l0 2)) hC tf_X4_54 ht3 rfl dX4_add_24 ?_
    refine mx_aload_n (j := 1) hC dX4_add_27 rfl rfl ?_
    obtain ⟨ht6, h⟩ := h
    refine mx_put (v := vR l1) (M1 := mj_wr (mj_wi M l1 0 (mj_i M l0 3)) (mj_r M l0 2) 1 l1) hC tf_X4_44 ht6 (Or.inl rfl) (mj_fitR l1 _) (mj_off_wr _ _ _ _) mj_put_wr dX4_add_28 ?_
    refine mx_sub (L' := [(0, vR l0), (1, vR l1)]) [0, 1] rfl ?_
    exact show mj_X g 31 [(0, vR l0), (1, vR l1)] [] (mj_wr (mj_wi M l1 0 (mj_i M l0 3)) (mj_r M l0 2) 1 l1) 0 0 from (xb_X4_add_31 hC hE l0 l1 (mj_wr (mj_wi M l1 0 (mj_i M l0 3)) (mj_r M l0 2) 1 l1) h)
  · replace h := mj_yy hc5 h
    refine mx_aload_n (j := 0) hC dX4_add_15 rfl rfl ?_
    refine mx_aload_n (j := 1) hC dX4_add_16 rfl rfl ?_
    refine mx_put (v := vR l1) (M1 := mj_wr (mj_wi M l1 0 (mj_i M l0 3)) l0 1 l1) hC tf_X4_37 ht3 (Or.inl rfl) (mj_fitR l1 _) (mj_off_wr _ _ _ _) mj_put_wr dX4_add_17 ?_
    refine mx_goto (tgt := 31) hC dX4_add_20 (by decide) ?_
    refine mx_sub (L' := [(0, vR l0), (1, vR l1)]) [0, 1] rfl ?_
    exact show mj_X g 31 [(0, vR l0), (1, vR l1)] [] (mj_wr (mj_wi M l1 0 (mj_i M l0 3)) l0 1 l1) 0 0 from (xb_X4_add_31 hC hE l0 l1 (mj_wr (mj_wi M l1 0 (mj_i M l0 3)) l0 1 l1) h)
theorem tw327 : (Jvm.Cond.fieldLink "LeaseLand$Land" (57 : Nat) "LeaseLand$Holding" "floors" "I") ∈ mj_tbl := mj_w 380 (by decide +kernel) (by decide +kernel)
theorem tf_X4_57 : mj_F 3 3 .int false "LeaseLand$Land" 57 := ⟨_, tk3, by decide, rfl, rfl, rfl, tw327⟩
def rm_X4_isOwned : Room := { frames := 0, cells := 0, slots := 0, locals := 0 }
theorem dX4_isOwned_0 : decode cX4_isOwned 0 = .ok (.aload_n 0, 1) := by decide +kernel
theorem dX4_isOwned_1 : decode cX4_isOwned 1 = .ok (.getfield 37, 3) := by decide +kernel
theorem dX4_isOwned_4 : decode cX4_isOwned 4 = .ok (.astore_n 2, 1) := by decide +kernel
theorem dX4_isOwned_5 : decode cX4_isOwned 5 = .ok (.aload_n 2, 1) := by decide +kernel
theorem dX4_isOwned_6 : decode cX4_isOwned 6 = .ok (.ifnull 29, 3) := by decide +kernel
theorem dX4_isOwned_9 : decode cX4_isOwned 9 = .ok (.aload_n 2, 1) := by decide +kernel
theorem dX4_isOwned_10 : decode cX4_isOwned 10 = .ok (.getfield 51, 3) := by decide +kernel
theorem dX4_isOwned_13 : decode cX4_isOwned 13 = .ok (.ifnonnull 14, 3) := by decide +kernel
theorem dX4_isOwned_16 : decode cX4_isOwned 16 = .ok (.aload_n 2, 1) := by decide +kernel
theorem dX4_isOwned_17 : decode cX4_isOwned 17 = .ok (.getfield 57, 3) := by decide +kernel
theorem dX4_isOwned_20 : decode cX4_isOwned 20 = .ok (.iload_n 1, 1) := by decide +kernel
theorem dX4_isOwned_21 : decode cX4_isOwned 21 = .ok (.iand, 1) := by decide +kernel
theorem dX4_isOwned_22 : decode cX4_isOwned 22 = .ok (.ifCond .eq 5, 3) := by decide +kernel
theorem dX4_isOwned_25 : decode cX4_isOwned 25 = .ok (.iconst 1, 1) := by decide +kernel
theorem dX4_isOwned_26 : decode cX4_isOwned 26 = .ok (.ireturn, 1) := by decide +kernel
theorem dX4_isOwned_27 : decode cX4_isOwned 27 = .ok (.aload_n 2, 1) := by decide +kernel
theorem dX4_isOwned_28 : decode cX4_isOwned 28 = .ok (.getfield 44, 3) := by decide +kernel
theorem dX4_isOwned_31 : decode cX4_isOwned 31 = .ok (.astore_n 2, 1) := by decide +kernel
theorem dX4_isOwned_32 : decode cX4_isOwned 32 = .ok (.goto (-27), 3) := by decide +kernel
theorem dX4_isOwned_35 : decode cX4_isOwned 35 = .ok (.iconst 0, 1) := by decide +kernel
theorem dX4_isOwned_36 : decode cX4_isOwned 36 = .ok (.ireturn, 1) := by decide +kernel
def vb_X4_isOwned_5 (post : Bool → mj_M → Prop) : Nat → Int32 → Nat → mj_M → Prop
  | 0 => fun _ _ _ => False
  | f + 1 => fun l1 l2 M => if l2 = 0 then (post false M) else (mj_tag M l2 = 4 ∧ if (mj_r M l2 2) = 0 then (if ((mj_i M l2 3) &&& l1) = 0 then (vb_X4_isOwned_5 post f l1 (mj_r M l2 1) M) else (post true M)) else (vb_X4_isOwned_5 post f l1 (mj_r M l2 1) M))
def vc_X4_isOwned (l0 : Nat) (l1 : Int32) (M : mj_M) (post : Bool → mj_M → Prop) : Prop := mj_tag M l0 = 5 ∧ ∃ fe, vb_X4_isOwned_5 post fe l1 (mj_r M l0 1) M
set_option maxHeartbeats 4000000 in
set_option maxRecDepth 100000 in
theorem xb_X4_isOwned_5 {g : mj_G} {post : Bool → mj_M → Prop} (hC : mj_C g yX4_isOwned cX4_isOwned 3 (some .boolean) rm_X4_isOwned) (hE : mj_E g mj_jB post 0 0) : ∀ (f : Nat) (l1 : Int32) (l2 : Nat) (M : mj_M), vb_X4_isOwned_5 post f l1 l2 M → mj_X g 5 [(1, vI l1), (2, vR l2)] [] M 0 0 := by
  intro f
  induction f with
  | zero => exact fun _ _ _ h => absurd h (fun z => z)
  | succ f ih =>
    intro l1 l2 M h
    simp only [vb_X4_isOwned_5] at h
    refine mx_aload_n (j := 1) hC dX4_isOwned_5 rfl rfl ?_
    refine mx_ifnull (tgt := 35) hC dX4_isOwned_6 (by decide) (fun hc1 => ?_) (fun hc1 => ?_)
    · replace h := mj_yy hc1 h
      refine mx_iconst (v := 0) hC dX4_isOwned_35 (by decide) ?_
      exact mx_zret (b := false) hC hE rfl dX4_isOwned_36 h
    · replace h := mj_nn hc1 h
      refine mx_aload_n (j := 1) hC dX4_isOwned_9 rfl rfl ?_
      obtain ⟨ht2, h⟩ := h
      refine mx_get (v := vR (mj_r M l2 2)) hC tf_X4_51 ht2 rfl dX4_isOwned_10 ?_
      refine mx_ifnonnull (tgt := 27) hC dX4_isOwned_13 (by decide) (fun hc3 => ?_) (fun hc3 => ?_)
      · replace h := mj_nn hc3 h
        refine mx_aload_n (j := 1) hC dX4_isOwned_27 rfl rfl ?_
        refine mx_get (v := vR (mj_r M l2 1)) hC tf_X4_44 ht2 rfl dX4_isOwned_28 ?_
        refine mx_astore_n (L' := [(2, vR (mj_r M l2 1)), (1, vI l1)]) hC dX4_isOwned_31 rfl (by decide) rfl ?_
        refine mx_goto (tgt := 5) hC dX4_isOwned_32 (by decide) ?_
        refine mx_sub (L' := [(1, vI l1), (2, vR (mj_r M l2 1))]) [1, 0] rfl ?_
        exact show mj_X g 5 [(1, vI l1), (2, vR (mj_r M l2 1))] [] M 0 0 from (ih l1 (mj_r M l2 1) M h)
      · replace h := mj_yy hc3 h
        refine mx_aload_n (j := 1) hC dX4_isOwned_16 rfl rfl ?_
        refine mx_get (v := vI (mj_i M l2 3)) hC tf_X4_57 ht2 rfl dX4_isOwned_17 ?_
        refine mx_iload_n (j := 0) hC dX4_isOwned_20 rfl rfl ?_
        refine mx_iand hC dX4_isOwned_21 ?_
        refine mx_ifeq (tgt := 27) hC dX4_isOwned_22 (by decide) (fun hc4 => ?_) (fun hc4 => ?_)
        · replace h := mj_yy hc4 h
          refine mx_aload_n (j := 1) hC dX4_isOwned_27 rfl rfl ?_
          refine mx_get (v := vR (mj_r M l2 1)) hC tf_X4_44 ht2 rfl dX4_isOwned_28 ?_
          refine mx_astore_n (L' := [(2, vR (mj_r M l2 1)), (1, vI l1)]) hC dX4_isOwned_31 rfl (by decide) rfl ?_
          refine mx_goto (tgt := 5) hC dX4_isOwned_32 (by decide) ?_
          refine mx_sub (L' := [(1, vI l1), (2, vR (mj_r M l2 1))]) [1, 0] rfl ?_
          exact show mj_X g 5 [(1, vI l1), (2, vR (mj_r M l2 1))] [] M 0 0 from (ih l1 (mj_r M l2 1) M h)
        · replace h := mj_nn hc4 h
          refine mx_iconst (v := 1) hC dX4_isOwned_25 (by decide) ?_
          exact mx_zret (b := true) hC hE rfl dX4_isOwned_26 h
set_option maxHeartbeats 4000000 in
set_option maxRecDepth 100000 in
theorem ct_X4_isOwned {l : Launch} {base : Nat} {D : va_G} {A : ClassId × ClassId × ClassId} (l0 : Nat) (l1 : Int32) (M : mj_M) (post : Bool → mj_M → Prop) (h : vc_X4_isOwned l0 l1 M post) : mj_Met l base D A mj_jB yX4_isOwned cX4_isOwned 3 (some .boolean) rm_X4_isOwned 0 0 [vR l0, vI l1] M post := by
  refine mj_entry (by decide +kernel) (Nat.le_of_ble_eq_true rfl) (fun g hC hE h1 h2 h3 h4 => ?_)
  show mj_X g 0 [(0, vR l0), (1, vI l1)] [] M 0 0
  simp only [vc_X4_isOwned] at h
  refine mx_aload_n (j := 0) hC dX4_isOwned_0 rfl rfl ?_
  obtain ⟨ht5, h⟩ := h
  refine mx_get (v := vR (mj_r M l0 1)) hC tf_X4_37 ht5 rfl dX4_isOwned_1 ?_
  refine mx_astore_n (L' := [(2, vR (mj_r M l0 1)), (0, vR l0), (1, vI l1)]) hC dX4_isOwned_4 rfl (by decide) rfl ?_
  refine mx_sub (L' := [(1, vI l1), (2, vR (mj_r M l0 1))]) [2, 0] rfl ?_
  obtain ⟨fe, h⟩ := h
  exact show mj_X g 5 [(1, vI l1), (2, vR (mj_r M l0 1))] [] M 0 0 from (xb_X4_isOwned_5 hC hE fe l1 (mj_r M l0 1) M h)
theorem tw425 : (Jvm.Cond.methodLink "LeaseLand$Land" (60 : Nat) ({ cls := "LeaseLand$Holding", name := "meets", desc := "(III)Z" } : Jvm.MethodName)) ∈ mj_tbl := mj_w 478 (by decide +kernel) (by decide +kernel)
theorem tw428 : (Jvm.Cond.code ({ cls := "LeaseLand$Holding", name := "meets", desc := "(III)Z" } : Jvm.MethodName) prog_5_method_6_code (4 : Nat) (Option.some Jvm.ClassFile.FieldType.boolean)) ∈ mj_tbl := mj_w 481 (by decide +kernel) (by decide +kernel)
theorem tw426 : (Jvm.Cond.instanceMethod ({ cls := "LeaseLand$Holding", name := "meets", desc := "(III)Z" } : Jvm.MethodName)) ∈ mj_tbl := mj_w 479 (by decide +kernel) (by decide +kernel)
theorem tw427 : (Jvm.Cond.selects "LeaseLand$Holding" ({ cls := "LeaseLand$Holding", name := "meets", desc := "(III)Z" } : Jvm.MethodName) ({ cls := "LeaseLand$Holding", name := "meets", desc := "(III)Z" } : Jvm.MethodName)) ∈ mj_tbl := mj_w 480 (by decide +kernel) (by decide +kernel)
theorem ty_X3_meets : mj_YV 3 yX3_meets cX3_meets 4 (some .boolean) 3 := ⟨⟨tw428, tw12, by decide +kernel, by decide +kernel, by decide +kernel⟩, tw426, tw427, _, rfl, rfl⟩
def rm_X4_hasAnother : Room := { frames := 2, cells := 0, slots := 0, locals := 44 }
theorem dX4_hasAnother_0 : decode cX4_hasAnother 0 = .ok (.aload_n 0, 1) := by decide +kernel
theorem dX4_hasAnother_1 : decode cX4_hasAnother 1 = .ok (.getfield 37, 3) := by decide +kernel
theorem dX4_hasAnother_4 : decode cX4_hasAnother 4 = .ok (.astore 6, 2) := by decide +kernel
theorem dX4_hasAnother_6 : decode cX4_hasAnother 6 = .ok (.aload 6, 2) := by decide +kernel
theorem dX4_hasAnother_8 : decode cX4_hasAnother 8 = .ok (.ifnull 43, 3) := by decide +kernel
theorem dX4_hasAnother_11 : decode cX4_hasAnother 11 = .ok (.aload 6, 2) := by decide +kernel
theorem dX4_hasAnother_13 : decode cX4_hasAnother 13 = .ok (.getfield 51, 3) := by decide +kernel
theorem dX4_hasAnother_16 : decode cX4_hasAnother 16 = .ok (.aload_n 1, 1) := by decide +kernel
theorem dX4_hasAnother_17 : decode cX4_hasAnother 17 = .ok (.if_acmp .ne 24, 3) := by decide +kernel
theorem dX4_hasAnother_20 : decode cX4_hasAnother 20 = .ok (.aload 6, 2) := by decide +kernel
theorem dX4_hasAnother_22 : decode cX4_hasAnother 22 = .ok (.aload_n 2, 1) := by decide +kernel
theorem dX4_hasAnother_23 : decode cX4_hasAnother 23 = .ok (.if_acmp .eq 18, 3) := by decide +kernel
theorem dX4_hasAnother_26 : decode cX4_hasAnother 26 = .ok (.aload 6, 2) := by decide +kernel
theorem dX4_hasAnother_28 : decode cX4_hasAnother 28 = .ok (.iload_n 3, 1) := by decide +kernel
theorem dX4_hasAnother_29 : decode cX4_hasAnother 29 = .ok (.iload 4, 2) := by decide +kernel
theorem dX4_hasAnother_31 : decode cX4_hasAnother 31 = .ok (.iload 5, 2) := by decide +kernel
theorem dX4_hasAnother_33 : decode cX4_hasAnother 33 = .ok (.invokevirtual 60, 3) := by decide +kernel
theorem dX4_hasAnother_36 : decode cX4_hasAnother 36 = .ok (.ifCond .eq 5, 3) := by decide +kernel
theorem dX4_hasAnother_39 : decode cX4_hasAnother 39 = .ok (.iconst 1, 1) := by decide +kernel
theorem dX4_hasAnother_40 : decode cX4_hasAnother 40 = .ok (.ireturn, 1) := by decide +kernel
theorem dX4_hasAnother_41 : decode cX4_hasAnother 41 = .ok (.aload 6, 2) := by decide +kernel
theorem dX4_hasAnother_43 : decode cX4_hasAnother 43 = .ok (.getfield 44, 3) := by decide +kernel
theorem dX4_hasAnother_46 : decode cX4_hasAnother 46 = .ok (.astore 6, 2) := by decide +kernel
theorem dX4_hasAnother_48 : decode cX4_hasAnother 48 = .ok (.goto (-42), 3) := by decide +kernel
theorem dX4_hasAnother_51 : decode cX4_hasAnother 51 = .ok (.iconst 0, 1) := by decide +kernel
theorem dX4_hasAnother_52 : decode cX4_hasAnother 52 = .ok (.ireturn, 1) := by decide +kernel
def vb_X4_hasAnother_6 (post : Bool → mj_M → Prop) : Nat → Nat → Nat → Int32 → Int32 → Int32 → Nat → mj_M → Prop
  | 0 => fun _ _ _ _ _ _ _ => False
  | f + 1 => fun l1 l2 l3 l4 l5 l6 M => if l6 = 0 then (post false M) else (mj_tag M l6 = 4 ∧ if (mj_r M l6 2) = l1 then (if l6 = l2 then (vb_X4_hasAnother_6 post f l1 l2 l3 l4 l5 (mj_r M l6 1) M) else (vc_X3_meets l6 l3 l4 l5 M (fun r5 M6 => if r5 = true then (post true M6) else (mj_tag M6 l6 = 4 ∧ vb_X4_hasAnother_6 post f l1 l2 l3 l4 l5 (mj_r M6 l6 1) M6)))) else (vb_X4_hasAnother_6 post f l1 l2 l3 l4 l5 (mj_r M l6 1) M))
def vc_X4_hasAnother (l0 : Nat) (l1 : Nat) (l2 : Nat) (l3 : Int32) (l4 : Int32) (l5 : Int32) (M : mj_M) (post : Bool → mj_M → Prop) : Prop := mj_tag M l0 = 5 ∧ ∃ fe, vb_X4_hasAnother_6 post fe l1 l2 l3 l4 l5 (mj_r M l0 1) M
set_option maxHeartbeats 4000000 in
set_option maxRecDepth 100000 in
theorem xb_X4_hasAnother_6 {g : mj_G} {post : Bool → mj_M → Prop} (hC : mj_C g yX4_hasAnother cX4_hasAnother 7 (some .boolean) rm_X4_hasAnother) (hE : mj_E g mj_jB post 0 0) : ∀ (f : Nat) (l1 : Nat) (l2 : Nat) (l3 : Int32) (l4 : Int32) (l5 : Int32) (l6 : Nat) (M : mj_M), vb_X4_hasAnother_6 post f l1 l2 l3 l4 l5 l6 M → mj_X g 6 [(1, vR l1), (2, vR l2), (3, vI l3), (4, vI l4), (5, vI l5), (6, vR l6)] [] M 0 0 := by
  intro f
  induction f with
  | zero => exact fun _ _ _ _ _ _ _ h => absurd h (fun z => z)
  | succ f ih =>
    intro l1 l2 l3 l4 l5 l6 M h
    simp only [vb_X4_hasAnother_6] at h
    refine mx_aload (j := 5) hC dX4_hasAnother_6 rfl ?_
    refine mx_ifnull (tgt := 51) hC dX4_hasAnother_8 (by decide) (fun hc1 => ?_) (fun hc1 => ?_)
    · replace h := mj_yy hc1 h
      refine mx_iconst (v := 0) hC dX4_hasAnother_51 (by decide) ?_
      exact mx_zret (b := false) hC hE rfl dX4_hasAnother_52 h
    · replace h := mj_nn hc1 h
      refine mx_aload (j := 5) hC dX4_hasAnother_11 rfl ?_
      obtain ⟨ht2, h⟩ := h
      refine mx_get (v := vR (mj_r M l6 2)) hC tf_X4_51 ht2 rfl dX4_hasAnother_13 ?_
      refine mx_aload_n (j := 0) hC dX4_hasAnother_16 rfl rfl ?_
      refine mx_acmpne (tgt := 41) hC dX4_hasAnother_17 (by decide) (fun hc3 => ?_) (fun hc3 => ?_)
      · replace h := mj_nn hc3 h
        refine mx_aload (j := 5) hC dX4_hasAnother_41 rfl ?_
        refine mx_get (v := vR (mj_r M l6 1)) hC tf_X4_44 ht2 rfl dX4_hasAnother_43 ?_
        refine mx_astore (L' := [(6, vR (mj_r M l6 1)), (1, vR l1), (2, vR l2), (3, vI l3), (4, vI l4), (5, vI l5)]) hC dX4_hasAnother_46 (by decide) rfl ?_
        refine mx_goto (tgt := 6) hC dX4_hasAnother_48 (by decide) ?_
        refine mx_sub (L' := [(1, vR l1), (2, vR l2), (3, vI l3), (4, vI l4), (5, vI l5), (6, vR (mj_r M l6 1))]) [1, 2, 3, 4, 5, 0] rfl ?_
        exact show mj_X g 6 [(1, vR l1), (2, vR l2), (3, vI l3), (4, vI l4), (5, vI l5), (6, vR (mj_r M l6 1))] [] M 0 0 from (ih l1 l2 l3 l4 l5 (mj_r M l6 1) M h)
      · replace h := mj_yy hc3 h
        refine mx_aload (j := 5) hC dX4_hasAnother_20 rfl ?_
        refine mx_aload_n (j := 1) hC dX4_hasAnother_22 rfl rfl ?_
        refine mx_acmpeq (tgt := 41) hC dX4_hasAnother_23 (by decide) (fun hc4 => ?_) (fun hc4 => ?_)
        · replace h := mj_yy hc4 h
          refine mx_aload (j := 5) hC dX4_hasAnother_41 rfl ?_
          refine mx_get (v := vR (mj_r M l6 1)) hC tf_X4_44 ht2 rfl dX4_hasAnother_43 ?_
          refine mx_astore (L' := [(6, vR (mj_r M l6 1)), (1, vR l1), (2, vR l2), (3, vI l3), (4, vI l4), (5, vI l5)]) hC dX4_hasAnother_46 (by decide) rfl ?_
          refine mx_goto (tgt := 6) hC dX4_hasAnother_48 (by decide) ?_
          refine mx_sub (L' := [(1, vR l1), (2, vR l2), (3, vI l3), (4, vI l4), (5, vI l5), (6, vR (mj_r M l6 1))]) [1, 2, 3, 4, 5, 0] rfl ?_
          exact show mj_X g 6 [(1, vR l1), (2, vR l2), (3, vI l3), (4, vI l4), (5, vI l5), (6, vR (mj_r M l6 1))] [] M 0 0 from (ih l1 l2 l3 l4 l5 (mj_r M l6 1) M h)
        · replace h := mj_nn hc4 h
          refine mx_aload (j := 5) hC dX4_hasAnother_26 rfl ?_
          refine mx_iload_n (j := 2) hC dX4_hasAnother_28 rfl rfl ?_
          refine mx_iload (j := 3) hC dX4_hasAnother_29 rfl ?_
          refine mx_iload (j := 4) hC dX4_hasAnother_31 rfl ?_
          refine mx_callV (inj := mj_jB) (As := [vI l3, vI l4, vI l5]) (st := []) hC (ct_X3_meets l6 l3 l4 l5 M _ h) ty_X3_meets tw425 ht2 rfl (Nat.le_of_ble_eq_true rfl) ⟨rfl, rfl, ⟨by decide, by decide⟩, by decide, by decide⟩ dX4_hasAnother_33 (fun r5 M6 h => ?_)
          show mj_X g 36 [(1, vR l1), (2, vR l2), (3, vI l3), (4, vI l4), (5, vI l5), (6, vR l6)] [vI (mj_b r5)] M6 0 0
          refine mx_ifeqB (tgt := 41) hC dX4_hasAnother_36 (by decide) (fun hc7 => ?_) (fun hc7 => ?_)
          · replace h := mj_nn hc7 h
            refine mx_aload (j := 5) hC dX4_hasAnother_41 rfl ?_
            obtain ⟨ht8, h⟩ := h
            refine mx_get (v := vR (mj_r M6 l6 1)) hC tf_X4_44 ht8 rfl dX4_hasAnother_43 ?_
            refine mx_astore (L' := [(6, vR (mj_r M6 l6 1)), (1, vR l1), (2, vR l2), (3, vI l3), (4, vI l4), (5, vI l5)]) hC dX4_hasAnother_46 (by decide) rfl ?_
            refine mx_goto (tgt := 6) hC dX4_hasAnother_48 (by decide) ?_
            refine mx_sub (L' := [(1, vR l1), (2, vR l2), (3, vI l3), (4, vI l4), (5, vI l5), (6, vR (mj_r M6 l6 1))]) [1, 2, 3, 4, 5, 0] rfl ?_
            exact show mj_X g 6 [(1, vR l1), (2, vR l2), (3, vI l3), (4, vI l4), (5, vI l5), (6, vR (mj_r M6 l6 1))] [] M6 0 0 from (ih l1 l2 l3 l4 l5 (mj_r M6 l6 1) M6 h)
          · replace h := mj_yy hc7 h
            refine mx_iconst (v := 1) hC dX4_hasAnother_39 (by decide) ?_
            exact mx_zret (b := true) hC hE rfl dX4_hasAnother_40 h
set_option maxHeartbeats 4000000 in
set_option maxRecDepth 100000 in
theorem ct_X4_hasAnother {l : Launch} {base : Nat} {D : va_G} {A : ClassId × ClassId × ClassId} (l0 : Nat) (l1 : Nat) (l2 : Nat) (l3 : Int32) (l4 : Int32) (l5 : Int32) (M : mj_M) (post : Bool → mj_M → Prop) (h : vc_X4_hasAnother l0 l1 l2 l3 l4 l5 M post) : mj_Met l base D A mj_jB yX4_hasAnother cX4_hasAnother 7 (some .boolean) rm_X4_hasAnother 0 0 [vR l0, vR l1, vR l2, vI l3, vI l4, vI l5] M post := by
  refine mj_entry (by decide +kernel) (Nat.le_of_ble_eq_true rfl) (fun g hC hE h1 h2 h3 h4 => ?_)
  show mj_X g 0 [(0, vR l0), (1, vR l1), (2, vR l2), (3, vI l3), (4, vI l4), (5, vI l5)] [] M 0 0
  simp only [vc_X4_hasAnother] at h
  refine mx_aload_n (j := 0) hC dX4_hasAnother_0 rfl rfl ?_
  obtain ⟨ht9, h⟩ := h
  refine mx_get (v := vR (mj_r M l0 1)) hC tf_X4_37 ht9 rfl dX4_hasAnother_1 ?_
  refine mx_astore (L' := [(6, vR (mj_r M l0 1)), (0, vR l0), (1, vR l1), (2, vR l2), (3, vI l3), (4, vI l4), (5, vI l5)]) hC dX4_hasAnother_4 (by decide) rfl ?_
  refine mx_sub (L' := [(1, vR l1), (2, vR l2), (3, vI l3), (4, vI l4), (5, vI l5), (6, vR (mj_r M l0 1))]) [2, 3, 4, 5, 6, 0] rfl ?_
  obtain ⟨fe, h⟩ := h
  exact show mj_X g 6 [(1, vR l1), (2, vR l2), (3, vI l3), (4, vI l4), (5, vI l5), (6, vR (mj_r M l0 1))] [] M 0 0 from (xb_X4_hasAnother_6 hC hE fe l1 l2 l3 l4 l5 (mj_r M l0 1) M h)
theorem tw421 : (Jvm.Cond.methodLink "LeaseLand$Land" (64 : Nat) ({ cls := "LeaseLand$Land", name := "hasAnother", desc := "(LLeaseLand$Holding;LLeaseLand$Holding;III)Z" } : Jvm.MethodName)) ∈ mj_tbl := mj_w 474 (by decide +kernel) (by decide +kernel)
theorem tw424 : (Jvm.Cond.code ({ cls := "LeaseLand$Land", name := "hasAnother", desc := "(LLeaseLand$Holding;LLeaseLand$Holding;III)Z" } : Jvm.MethodName) prog_6_method_9_code (7 : Nat) (Option.some Jvm.ClassFile.FieldType.boolean)) ∈ mj_tbl := mj_w 477 (by decide +kernel) (by decide +kernel)
theorem tw422 : (Jvm.Cond.instanceMethod ({ cls := "LeaseLand$Land", name := "hasAnother", desc := "(LLeaseLand$Holding;LLeaseLand$Holding;III)Z" } : Jvm.MethodName)) ∈ mj_tbl := mj_w 475 (by decide +kernel) (by decide +kernel)
theorem tw423 : (Jvm.Cond.selects "LeaseLand$Land" ({ cls := "LeaseLand$Land", name := "hasAnother", desc := "(LLeaseLand$Holding;LLeaseLand$Holding;III)Z" } : Jvm.MethodName) ({ cls := "LeaseLand$Land", name := "hasAnother", desc := "(LLeaseLand$Holding;LLeaseLand$Holding;III)Z" } : Jvm.MethodName)) ∈ mj_tbl := mj_w 476 (by decide +kernel) (by decide +kernel)
theorem ty_X4_hasAnother : mj_YV 4 yX4_hasAnother cX4_hasAnother 7 (some .boolean) 5 := ⟨⟨tw424, tw2, by decide +kernel, by decide +kernel, by decide +kernel⟩, tw422, tw423, _, rfl, rfl⟩
def rm_X4_isInTheWay : Room := { frames := 3, cells := 0, slots := 0, locals := 70 }
theorem dX4_isInTheWay_0 : decode cX4_isInTheWay 0 = .ok (.aload_n 0, 1) := by decide +kernel
theorem dX4_isInTheWay_1 : decode cX4_isInTheWay 1 = .ok (.aload_n 1, 1) := by decide +kernel
theorem dX4_isInTheWay_2 : decode cX4_isInTheWay 2 = .ok (.getfield 51, 3) := by decide +kernel
theorem dX4_isInTheWay_5 : decode cX4_isInTheWay 5 = .ok (.aload_n 1, 1) := by decide +kernel
theorem dX4_isInTheWay_6 : decode cX4_isInTheWay 6 = .ok (.aload_n 1, 1) := by decide +kernel
theorem dX4_isInTheWay_7 : decode cX4_isInTheWay 7 = .ok (.getfield 57, 3) := by decide +kernel
theorem dX4_isInTheWay_10 : decode cX4_isInTheWay 10 = .ok (.iload_n 2, 1) := by decide +kernel
theorem dX4_isInTheWay_11 : decode cX4_isInTheWay 11 = .ok (.iload_n 3, 1) := by decide +kernel
theorem dX4_isInTheWay_12 : decode cX4_isInTheWay 12 = .ok (.invokevirtual 64, 3) := by decide +kernel
theorem dX4_isInTheWay_15 : decode cX4_isInTheWay 15 = .ok (.ireturn, 1) := by decide +kernel
def vc_X4_isInTheWay (l0 : Nat) (l1 : Nat) (l2 : Int32) (l3 : Int32) (M : mj_M) (post : Bool → mj_M → Prop) : Prop := mj_tag M l1 = 4 ∧ mj_tag M l0 = 5 ∧ vc_X4_hasAnother l0 (mj_r M l1 2) l1 (mj_i M l1 3) l2 l3 M (fun r3 M4 => post r3 M4)
set_option maxHeartbeats 4000000 in
set_option maxRecDepth 100000 in
theorem ct_X4_isInTheWay {l : Launch} {base : Nat} {D : va_G} {A : ClassId × ClassId × ClassId} (l0 : Nat) (l1 : Nat) (l2 : Int32) (l3 : Int32) (M : mj_M) (post : Bool → mj_M → Prop) (h : vc_X4_isInTheWay l0 l1 l2 l3 M post) : mj_Met l base D A mj_jB yX4_isInTheWay cX4_isInTheWay 4 (some .boolean) rm_X4_isInTheWay 0 0 [vR l0, vR l1, vI l2, vI l3] M post := by
  refine mj_entry (by decide +kernel) (Nat.le_of_ble_eq_true rfl) (fun g hC hE h1 h2 h3 h4 => ?_)
  show mj_X g 0 [(0, vR l0), (1, vR l1), (2, vI l2), (3, vI l3)] [] M 0 0
  simp only [vc_X4_isInTheWay] at h
  refine mx_aload_n (j := 0) hC dX4_isInTheWay_0 rfl rfl ?_
  refine mx_aload_n (j := 1) hC dX4_isInTheWay_1 rfl rfl ?_
  obtain ⟨ht1, h⟩ := h
  refine mx_get (v := vR (mj_r M l1 2)) hC tf_X4_51 ht1 rfl dX4_isInTheWay_2 ?_
  refine mx_aload_n (j := 1) hC dX4_isInTheWay_5 rfl rfl ?_
  refine mx_aload_n (j := 1) hC dX4_isInTheWay_6 rfl rfl ?_
  refine mx_get (v := vI (mj_i M l1 3)) hC tf_X4_57 ht1 rfl dX4_isInTheWay_7 ?_
  refine mx_iload_n (j := 2) hC dX4_isInTheWay_10 rfl rfl ?_
  refine mx_iload_n (j := 3) hC dX4_isInTheWay_11 rfl rfl ?_
  obtain ⟨ht2, h⟩ := h
  refine mx_callV (inj := mj_jB) (As := [vR (mj_r M l1 2), vR l1, vI (mj_i M l1 3), vI l2, vI l3]) (st := []) hC (ct_X4_hasAnother l0 (mj_r M l1 2) l1 (mj_i M l1 3) l2 l3 M _ h) ty_X4_hasAnother tw421 ht2 rfl (Nat.le_of_ble_eq_true rfl) ⟨rfl, rfl, ⟨by decide, by decide⟩, by decide, by decide⟩ dX4_isInTheWay_12 (fun r3 M4 h => ?_)
  show mj_X g 15 [(0, vR l0), (1, vR l1), (2, vI l2), (3, vI l3)] [vI (mj_b r3)] M4 0 0
  exact mx_zret (b := r3) hC hE rfl dX4_isInTheWay_15 h
theorem tw409 : (Jvm.Cond.methodLink "LeaseLand$Land" (68 : Nat) ({ cls := "LeaseLand$Holding", name := "holds", desc := "(III)Z" } : Jvm.MethodName)) ∈ mj_tbl := mj_w 462 (by decide +kernel) (by decide +kernel)
theorem tw412 : (Jvm.Cond.code ({ cls := "LeaseLand$Holding", name := "holds", desc := "(III)Z" } : Jvm.MethodName) prog_5_method_7_code (4 : Nat) (Option.some Jvm.ClassFile.FieldType.boolean)) ∈ mj_tbl := mj_w 465 (by decide +kernel) (by decide +kernel)
theorem tw410 : (Jvm.Cond.instanceMethod ({ cls := "LeaseLand$Holding", name := "holds", desc := "(III)Z" } : Jvm.MethodName)) ∈ mj_tbl := mj_w 463 (by decide +kernel) (by decide +kernel)
theorem tw411 : (Jvm.Cond.selects "LeaseLand$Holding" ({ cls := "LeaseLand$Holding", name := "holds", desc := "(III)Z" } : Jvm.MethodName) ({ cls := "LeaseLand$Holding", name := "holds", desc := "(III)Z" } : Jvm.MethodName)) ∈ mj_tbl := mj_w 464 (by decide +kernel) (by decide +kernel)
theorem ty_X3_holds : mj_YV 3 yX3_holds cX3_holds 4 (some .boolean) 3 := ⟨⟨tw412, tw12, by decide +kernel, by decide +kernel, by decide +kernel⟩, tw410, tw411, _, rfl, rfl⟩
def rm_X4_canGrant : Room := { frames := 3, cells := 0, slots := 0, locals := 70 }
theorem dX4_canGrant_0 : decode cX4_canGrant 0 = .ok (.aload_n 1, 1) := by decide +kernel
theorem dX4_canGrant_1 : decode cX4_canGrant 1 = .ok (.iload_n 2, 1) := by decide +kernel
theorem dX4_canGrant_2 : decode cX4_canGrant 2 = .ok (.iload_n 3, 1) := by decide +kernel
theorem dX4_canGrant_3 : decode cX4_canGrant 3 = .ok (.iload 4, 2) := by decide +kernel
theorem dX4_canGrant_5 : decode cX4_canGrant 5 = .ok (.invokevirtual 68, 3) := by decide +kernel
theorem dX4_canGrant_8 : decode cX4_canGrant 8 = .ok (.ifCond .eq 20, 3) := by decide +kernel
theorem dX4_canGrant_11 : decode cX4_canGrant 11 = .ok (.aload_n 0, 1) := by decide +kernel
theorem dX4_canGrant_12 : decode cX4_canGrant 12 = .ok (.aload_n 1, 1) := by decide +kernel
theorem dX4_canGrant_13 : decode cX4_canGrant 13 = .ok (.aconst_null, 1) := by decide +kernel
theorem dX4_canGrant_14 : decode cX4_canGrant 14 = .ok (.iload_n 2, 1) := by decide +kernel
theorem dX4_canGrant_15 : decode cX4_canGrant 15 = .ok (.iload_n 3, 1) := by decide +kernel
theorem dX4_canGrant_16 : decode cX4_canGrant 16 = .ok (.iload 4, 2) := by decide +kernel
theorem dX4_canGrant_18 : decode cX4_canGrant 18 = .ok (.invokevirtual 64, 3) := by decide +kernel
theorem dX4_canGrant_21 : decode cX4_canGrant 21 = .ok (.ifCond .ne 7, 3) := by decide +kernel
theorem dX4_canGrant_24 : decode cX4_canGrant 24 = .ok (.iconst 1, 1) := by decide +kernel
theorem dX4_canGrant_25 : decode cX4_canGrant 25 = .ok (.goto 4, 3) := by decide +kernel
theorem dX4_canGrant_28 : decode cX4_canGrant 28 = .ok (.iconst 0, 1) := by decide +kernel
theorem dX4_canGrant_29 : decode cX4_canGrant 29 = .ok (.ireturn, 1) := by decide +kernel
def vc_X4_canGrant (l0 : Nat) (l1 : Nat) (l2 : Int32) (l3 : Int32) (l4 : Int32) (M : mj_M) (post : Bool → mj_M → Prop) : Prop := mj_tag M l1 = 4 ∧ vc_X3_holds l1 l2 l3 l4 M (fun r2 M3 => if r2 = true then (mj_tag M3 l0 = 5 ∧ vc_X4_hasAnother l0 l1 0 l2 l3 l4 M3 (fun r6 M7 => if r6 = true then (post false M7) else (post true M7))) else (post false M3))
set_option maxHeartbeats 4000000 in
set_option maxRecDepth 100000 in
theorem ct_X4_canGrant {l : Launch} {base : Nat} {D : va_G} {A : ClassId × ClassId × ClassId} (l0 : Nat) (l1 : Nat) (l2 : Int32) (l3 : Int32) (l4 : Int32) (M : mj_M) (post : Bool → mj_M → Prop) (h : vc_X4_canGrant l0 l1 l2 l3 l4 M post) : mj_Met l base D A mj_jB yX4_canGrant cX4_canGrant 5 (some .boolean) rm_X4_canGrant 0 0 [vR l0, vR l1, vI l2, vI l3, vI l4] M post := by
  refine mj_entry (by decide +kernel) (Nat.le_of_ble_eq_true rfl) (fun g hC hE h1 h2 h3 h4 => ?_)
  show mj_X g 0 [(0, vR l0), (1, vR l1), (2, vI l2), (3, vI l3), (4, vI l4)] [] M 0 0
  simp only [vc_X4_canGrant] at h
  refine mx_aload_n (j := 1) hC dX4_canGrant_0 rfl rfl ?_
  refine mx_iload_n (j := 2) hC dX4_canGrant_1 rfl rfl ?_
  refine mx_iload_n (j := 3) hC dX4_canGrant_2 rfl rfl ?_
  refine mx_iload (j := 4) hC dX4_canGrant_3 rfl ?_
  obtain ⟨ht1, h⟩ := h
  refine mx_callV (inj := mj_jB) (As := [vI l2, vI l3, vI l4]) (st := []) hC (ct_X3_holds l1 l2 l3 l4 M _ h) ty_X3_holds tw409 ht1 rfl (Nat.le_of_ble_eq_true rfl) ⟨rfl, rfl, ⟨by decide, by decide⟩, by decide, by decide⟩ dX4_canGrant_5 (fun r2 M3 h => ?_)
  show mj_X g 8 [(0, vR l0), (1, vR l1), (2, vI l2), (3, vI l3), (4, vI l4)] [vI (mj_b r2)] M3 0 0
  refine mx_ifeqB (tgt := 28) hC dX4_canGrant_8 (by decide) (fun hc4 => ?_) (fun hc4 => ?_)
  · replace h := mj_nn hc4 h
    refine mx_iconst (v := 0) hC dX4_canGrant_28 (by decide) ?_
    exact mx_zret (b := false) hC hE rfl dX4_canGrant_29 h
  · replace h := mj_yy hc4 h
    refine mx_aload_n (j := 0) hC dX4_canGrant_11 rfl rfl ?_
    refine mx_aload_n (j := 1) hC dX4_canGrant_12 rfl rfl ?_
    refine mx_null hC dX4_canGrant_13 ?_
    refine mx_iload_n (j := 2) hC dX4_canGrant_14 rfl rfl ?_
    refine mx_iload_n (j := 3) hC dX4_canGrant_15 rfl rfl ?_
    refine mx_iload (j := 4) hC dX4_canGrant_16 rfl ?_
    obtain ⟨ht5, h⟩ := h
    refine mx_callV (inj := mj_jB) (As := [vR l1, vR 0, vI l2, vI l3, vI l4]) (st := []) hC (ct_X4_hasAnother l0 l1 0 l2 l3 l4 M3 _ h) ty_X4_hasAnother tw421 ht5 rfl (Nat.le_of_ble_eq_true rfl) ⟨rfl, rfl, ⟨by decide, by decide⟩, by decide, by decide⟩ dX4_canGrant_18 (fun r6 M7 h => ?_)
    show mj_X g 21 [(0, vR l0), (1, vR l1), (2, vI l2), (3, vI l3), (4, vI l4)] [vI (mj_b r6)] M7 0 0
    refine mx_ifneB (tgt := 28) hC dX4_canGrant_21 (by decide) (fun hc8 => ?_) (fun hc8 => ?_)
    · replace h := mj_yy hc8 h
      refine mx_iconst (v := 0) hC dX4_canGrant_28 (by decide) ?_
      exact mx_zret (b := false) hC hE rfl dX4_canGrant_29 h
    · replace h := mj_nn hc8 h
      refine mx_iconst (v := 1) hC dX4_canGrant_24 (by decide) ?_
      refine mx_goto (tgt := 29) hC dX4_canGrant_25 (by decide) ?_
      exact mx_zret (b := true) hC hE rfl dX4_canGrant_29 h
theorem tw331 : (Jvm.Cond.fieldLink "LeaseLand$Land" (75 : Nat) "LeaseLand$Holding" "from" "I") ∈ mj_tbl := mj_w 384 (by decide +kernel) (by decide +kernel)
theorem tf_X4_75 : mj_F 3 4 .int true "LeaseLand$Land" 75 := ⟨_, tk3, by decide, rfl, rfl, rfl, tw331⟩
theorem tw447 : (Jvm.Cond.methodLink "LeaseLand$Land" (78 : Nat) ({ cls := "java/lang/Math", name := "max", desc := "(II)I" } : Jvm.MethodName)) ∈ mj_tbl := mj_w 500 (by decide +kernel) (by decide +kernel)
theorem tw448 : (Jvm.Cond.methodLink "LeaseLand$Land" (84 : Nat) ({ cls := "LeaseLand$Holding", name := "until", desc := "()I" } : Jvm.MethodName)) ∈ mj_tbl := mj_w 501 (by decide +kernel) (by decide +kernel)
def rm_X4_keepsWithin : Room := { frames := 1, cells := 0, slots := 0, locals := 21 }
theorem dX4_keepsWithin_0 : decode cX4_keepsWithin 0 = .ok (.aload_n 1, 1) := by decide +kernel
theorem dX4_keepsWithin_1 : decode cX4_keepsWithin 1 = .ok (.getfield 57, 3) := by decide +kernel
theorem dX4_keepsWithin_4 : decode cX4_keepsWithin 4 = .ok (.iload_n 2, 1) := by decide +kernel
theorem dX4_keepsWithin_5 : decode cX4_keepsWithin 5 = .ok (.iconst (-1), 1) := by decide +kernel
theorem dX4_keepsWithin_6 : decode cX4_keepsWithin 6 = .ok (.ixor, 1) := by decide +kernel
theorem dX4_keepsWithin_7 : decode cX4_keepsWithin 7 = .ok (.iand, 1) := by decide +kernel
theorem dX4_keepsWithin_8 : decode cX4_keepsWithin 8 = .ok (.ifCond .ne 31, 3) := by decide +kernel
theorem dX4_keepsWithin_11 : decode cX4_keepsWithin 11 = .ok (.aload_n 1, 1) := by decide +kernel
theorem dX4_keepsWithin_12 : decode cX4_keepsWithin 12 = .ok (.getfield 75, 3) := by decide +kernel
theorem dX4_keepsWithin_15 : decode cX4_keepsWithin 15 = .ok (.aload_n 0, 1) := by decide +kernel
theorem dX4_keepsWithin_16 : decode cX4_keepsWithin 16 = .ok (.getfield 28, 3) := by decide +kernel
theorem dX4_keepsWithin_19 : decode cX4_keepsWithin 19 = .ok (.invokestatic 78, 3) := by decide +kernel
theorem dX4_keepsWithin_22 : decode cX4_keepsWithin 22 = .ok (.iload_n 3, 1) := by decide +kernel
theorem dX4_keepsWithin_23 : decode cX4_keepsWithin 23 = .ok (.if_icmp .lt 16, 3) := by decide +kernel
theorem dX4_keepsWithin_26 : decode cX4_keepsWithin 26 = .ok (.aload_n 1, 1) := by decide +kernel
theorem dX4_keepsWithin_27 : decode cX4_keepsWithin 27 = .ok (.invokevirtual 84, 3) := by decide +kernel
theorem dX4_keepsWithin_30 : decode cX4_keepsWithin 30 = .ok (.iload 4, 2) := by decide +kernel
theorem dX4_keepsWithin_32 : decode cX4_keepsWithin 32 = .ok (.if_icmp .gt 7, 3) := by decide +kernel
theorem dX4_keepsWithin_35 : decode cX4_keepsWithin 35 = .ok (.iconst 1, 1) := by decide +kernel
theorem dX4_keepsWithin_36 : decode cX4_keepsWithin 36 = .ok (.goto 4, 3) := by decide +kernel
theorem dX4_keepsWithin_39 : decode cX4_keepsWithin 39 = .ok (.iconst 0, 1) := by decide +kernel
theorem dX4_keepsWithin_40 : decode cX4_keepsWithin 40 = .ok (.ireturn, 1) := by decide +kernel
def vc_X4_keepsWithin (l0 : Nat) (l1 : Nat) (l2 : Int32) (l3 : Int32) (l4 : Int32) (M : mj_M) (post : Bool → mj_M → Prop) : Prop := mj_tag M l1 = 4 ∧ if ((mj_i M l1 3) &&& (l2 ^^^ ((-1)))) = 0 then (mj_tag M l0 = 5 ∧ vc_J9_max_7cf53 (mj_i M l1 4) (mj_i M l0 0) M (fun r4 M5 => if r4 < l3 then (post false M5) else (mj_tag M5 l1 = 4 ∧ vc_X3_until l1 M5 (fun r8 M9 => if l4 < r8 then (post false M9) else (post true M9))))) else (post false M)
set_option maxHeartbeats 4000000 in
set_option maxRecDepth 100000 in
theorem ct_X4_keepsWithin {l : Launch} {base : Nat} {D : va_G} {A : ClassId × ClassId × ClassId} (l0 : Nat) (l1 : Nat) (l2 : Int32) (l3 : Int32) (l4 : Int32) (M : mj_M) (post : Bool → mj_M → Prop) (h : vc_X4_keepsWithin l0 l1 l2 l3 l4 M post) : mj_Met l base D A mj_jB yX4_keepsWithin cX4_keepsWithin 5 (some .boolean) rm_X4_keepsWithin 0 0 [vR l0, vR l1, vI l2, vI l3, vI l4] M post := by
  refine mj_entry (by decide +kernel) (Nat.le_of_ble_eq_true rfl) (fun g hC hE h1 h2 h3 h4 => ?_)
  show mj_X g 0 [(0, vR l0), (1, vR l1), (2, vI l2), (3, vI l3), (4, vI l4)] [] M 0 0
  simp only [vc_X4_keepsWithin] at h
  refine mx_aload_n (j := 1) hC dX4_keepsWithin_0 rfl rfl ?_
  obtain ⟨ht1, h⟩ := h
  refine mx_get (v := vI (mj_i M l1 3)) hC tf_X4_57 ht1 rfl dX4_keepsWithin_1 ?_
  refine mx_iload_n (j := 2) hC dX4_keepsWithin_4 rfl rfl ?_
  refine mx_iconst (v := (-1)) hC dX4_keepsWithin_5 (by decide) ?_
  refine mx_ixor hC dX4_keepsWithin_6 ?_
  refine mx_iand hC dX4_keepsWithin_7 ?_
  refine mx_ifne (tgt := 39) hC dX4_keepsWithin_8 (by decide) (fun hc2 => ?_) (fun hc2 => ?_)
  · replace h := mj_nn hc2 h
    refine mx_iconst (v := 0) hC dX4_keepsWithin_39 (by decide) ?_
    exact mx_zret (b := false) hC hE rfl dX4_keepsWithin_40 h
  · replace h := mj_yy hc2 h
    refine mx_aload_n (j := 1) hC dX4_keepsWithin_11 rfl rfl ?_
    refine mx_get (v := vI (mj_i M l1 4)) hC tf_X4_75 ht1 rfl dX4_keepsWithin_12 ?_
    refine mx_aload_n (j := 0) hC dX4_keepsWithin_15 rfl rfl ?_
    obtain ⟨ht3, h⟩ := h
    refine mx_get (v := vI (mj_i M l0 0)) hC tf_X4_28 ht3 rfl dX4_keepsWithin_16 ?_
    refine mx_callS (inj := mj_jI) (As := [vI (mj_i M l1 4), vI (mj_i M l0 0)]) (st := []) hC (ct_J9_max_7cf53 (mj_i M l1 4) (mj_i M l0 0) M _ h) ty_J9_max_7cf53 tw447 rfl (Nat.le_of_ble_eq_true rfl) ⟨rfl, rfl, ⟨by decide, by decide⟩, by decide, by decide⟩ dX4_keepsWithin_19 (fun r4 M5 h => ?_)
    show mj_X g 22 [(0, vR l0), (1, vR l1), (2, vI l2), (3, vI l3), (4, vI l4)] [vI r4] M5 0 0
    refine mx_iload_n (j := 3) hC dX4_keepsWithin_22 rfl rfl ?_
    refine mx_icmplt (tgt := 39) hC dX4_keepsWithin_23 (by decide) (fun hc6 => ?_) (fun hc6 => ?_)
    · replace h := mj_yy hc6 h
      refine mx_iconst (v := 0) hC dX4_keepsWithin_39 (by decide) ?_
      exact mx_zret (b := false) hC hE rfl dX4_keepsWithin_40 h
    · replace h := mj_nn hc6 h
      refine mx_aload_n (j := 1) hC dX4_keepsWithin_26 rfl rfl ?_
      obtain ⟨ht7, h⟩ := h
      refine mx_callV (inj := mj_jI) (As := []) (st := []) hC (ct_X3_until l1 M5 _ h) ty_X3_until tw448 ht7 rfl (Nat.le_of_ble_eq_true rfl) ⟨rfl, rfl, ⟨by decide, by decide⟩, by decide, by decide⟩ dX4_keepsWithin_27 (fun r8 M9 h => ?_)
      show mj_X g 30 [(0, vR l0), (1, vR l1), (2, vI l2), (3, vI l3), (4, vI l4)] [vI r8] M9 0 0
      refine mx_iload (j := 4) hC dX4_keepsWithin_30 rfl ?_
      refine mx_icmpgt (tgt := 39) hC dX4_keepsWithin_32 (by decide) (fun hc10 => ?_) (fun hc10 => ?_)
      · replace h := mj_yy hc10 h
        refine mx_iconst (v := 0) hC dX4_keepsWithin_39 (by decide) ?_
        exact mx_zret (b := false) hC hE rfl dX4_keepsWithin_40 h
      · replace h := mj_nn hc10 h
        refine mx_iconst (v := 1) hC dX4_keepsWithin_35 (by decide) ?_
        refine mx_goto (tgt := 40) hC dX4_keepsWithin_36 (by decide) ?_
        exact mx_zret (b := true) hC hE rfl dX4_keepsWithin_40 h
theorem tw443 : (Jvm.Cond.methodLink "LeaseLand$Land" (71 : Nat) ({ cls := "LeaseLand$Land", name := "keepsWithin", desc := "(LLeaseLand$Holding;III)Z" } : Jvm.MethodName)) ∈ mj_tbl := mj_w 496 (by decide +kernel) (by decide +kernel)
theorem tw446 : (Jvm.Cond.code ({ cls := "LeaseLand$Land", name := "keepsWithin", desc := "(LLeaseLand$Holding;III)Z" } : Jvm.MethodName) prog_6_method_13_code (5 : Nat) (Option.some Jvm.ClassFile.FieldType.boolean)) ∈ mj_tbl := mj_w 499 (by decide +kernel) (by decide +kernel)
theorem tw444 : (Jvm.Cond.instanceMethod ({ cls := "LeaseLand$Land", name := "keepsWithin", desc := "(LLeaseLand$Holding;III)Z" } : Jvm.MethodName)) ∈ mj_tbl := mj_w 497 (by decide +kernel) (by decide +kernel)
theorem tw445 : (Jvm.Cond.selects "LeaseLand$Land" ({ cls := "LeaseLand$Land", name := "keepsWithin", desc := "(LLeaseLand$Holding;III)Z" } : Jvm.MethodName) ({ cls := "LeaseLand$Land", name := "keepsWithin", desc := "(LLeaseLand$Holding;III)Z" } : Jvm.MethodName)) ∈ mj_tbl := mj_w 498 (by decide +kernel) (by decide +kernel)
theorem ty_X4_keepsWithin : mj_YV 4 yX4_keepsWithin cX4_keepsWithin 5 (some .boolean) 4 := ⟨⟨tw446, tw2, by decide +kernel, by decide +kernel, by decide +kernel⟩, tw444, tw445, _, rfl, rfl⟩
def rm_X4_canPutBetween : Room := { frames := 2, cells := 0, slots := 0, locals := 45 }
theorem dX4_canPutBetween_0 : decode cX4_canPutBetween 0 = .ok (.aload_n 1, 1) := by decide +kernel
theorem dX4_canPutBetween_1 : decode cX4_canPutBetween 1 = .ok (.iload_n 2, 1) := by decide +kernel
theorem dX4_canPutBetween_2 : decode cX4_canPutBetween 2 = .ok (.iload_n 3, 1) := by decide +kernel
theorem dX4_canPutBetween_3 : decode cX4_canPutBetween 3 = .ok (.iload 4, 2) := by decide +kernel
theorem dX4_canPutBetween_5 : decode cX4_canPutBetween 5 = .ok (.invokevirtual 68, 3) := by decide +kernel
theorem dX4_canPutBetween_8 : decode cX4_canPutBetween 8 = .ok (.ifCond .ne 5, 3) := by decide +kernel
theorem dX4_canPutBetween_11 : decode cX4_canPutBetween 11 = .ok (.iconst 0, 1) := by decide +kernel
theorem dX4_canPutBetween_12 : decode cX4_canPutBetween 12 = .ok (.ireturn, 1) := by decide +kernel
theorem dX4_canPutBetween_13 : decode cX4_canPutBetween 13 = .ok (.aload_n 0, 1) := by decide +kernel
theorem dX4_canPutBetween_14 : decode cX4_canPutBetween 14 = .ok (.getfield 37, 3) := by decide +kernel
theorem dX4_canPutBetween_17 : decode cX4_canPutBetween 17 = .ok (.astore 5, 2) := by decide +kernel
theorem dX4_canPutBetween_19 : decode cX4_canPutBetween 19 = .ok (.aload 5, 2) := by decide +kernel
theorem dX4_canPutBetween_21 : decode cX4_canPutBetween 21 = .ok (.ifnull 49, 3) := by decide +kernel
theorem dX4_canPutBetween_24 : decode cX4_canPutBetween 24 = .ok (.aload 5, 2) := by decide +kernel
theorem dX4_canPutBetween_26 : decode cX4_canPutBetween 26 = .ok (.getfield 51, 3) := by decide +kernel
theorem dX4_canPutBetween_29 : decode cX4_canPutBetween 29 = .ok (.aload_n 1, 1) := by decide +kernel
theorem dX4_canPutBetween_30 : decode cX4_canPutBetween 30 = .ok (.if_acmp .ne 30, 3) := by decide +kernel
theorem dX4_canPutBetween_33 : decode cX4_canPutBetween 33 = .ok (.aload 5, 2) := by decide +kernel
theorem dX4_canPutBetween_35 : decode cX4_canPutBetween 35 = .ok (.iload_n 2, 1) := by decide +kernel
theorem dX4_canPutBetween_36 : decode cX4_canPutBetween 36 = .ok (.iload_n 3, 1) := by decide +kernel
theorem dX4_canPutBetween_37 : decode cX4_canPutBetween 37 = .ok (.iload 4, 2) := by decide +kernel
theorem dX4_canPutBetween_39 : decode cX4_canPutBetween 39 = .ok (.invokevirtual 60, 3) := by decide +kernel
theorem dX4_canPutBetween_42 : decode cX4_canPutBetween 42 = .ok (.ifCond .eq 18, 3) := by decide +kernel
theorem dX4_canPutBetween_45 : decode cX4_canPutBetween 45 = .ok (.aload_n 0, 1) := by decide +kernel
theorem dX4_canPutBetween_46 : decode cX4_canPutBetween 46 = .ok (.aload 5, 2) := by decide +kernel
theorem dX4_canPutBetween_48 : decode cX4_canPutBetween 48 = .ok (.iload_n 2, 1) := by decide +kernel
theorem dX4_canPutBetween_49 : decode cX4_canPutBetween 49 = .ok (.iload_n 3, 1) := by decide +kernel
theorem dX4_canPutBetween_50 : decode cX4_canPutBetween 50 = .ok (.iload 4, 2) := by decide +kernel
theorem dX4_canPutBetween_52 : decode cX4_canPutBetween 52 = .ok (.invokevirtual 71, 3) := by decide +kernel
theorem dX4_canPutBetween_55 : decode cX4_canPutBetween 55 = .ok (.ifCond .ne 5, 3) := by decide +kernel
theorem dX4_canPutBetween_58 : decode cX4_canPutBetween 58 = .ok (.iconst 0, 1) := by decide +kernel
theorem dX4_canPutBetween_59 : decode cX4_canPutBetween 59 = .ok (.ireturn, 1) := by decide +kernel
theorem dX4_canPutBetween_60 : decode cX4_canPutBetween 60 = .ok (.aload 5, 2) := by decide +kernel
theorem dX4_canPutBetween_62 : decode cX4_canPutBetween 62 = .ok (.getfield 44, 3) := by decide +kernel
theorem dX4_canPutBetween_65 : decode cX4_canPutBetween 65 = .ok (.astore 5, 2) := by decide +kernel
theorem dX4_canPutBetween_67 : decode cX4_canPutBetween 67 = .ok (.goto (-48), 3) := by decide +kernel
theorem dX4_canPutBetween_70 : decode cX4_canPutBetween 70 = .ok (.iconst 1, 1) := by decide +kernel
theorem dX4_canPutBetween_71 : decode cX4_canPutBetween 71 = .ok (.ireturn, 1) := by decide +kernel
def vb_X4_canPutBetween_19 (post : Bool → mj_M → Prop) : Nat → Nat → Nat → Int32 → Int32 → Int32 → Nat → mj_M → Prop
  | 0 => fun _ _ _ _ _ _ _ => False
  | f + 1 => fun l0 l1 l2 l3 l4 l5 M => if l5 = 0 then (post true M) else (mj_tag M l5 = 4 ∧ if (mj_r M l5 2) = l1 then (vc_X3_meets l5 l2 l3 l4 M (fun r4 M5 => if r4 = true then (mj_tag M5 l0 = 5 ∧ vc_X4_keepsWithin l0 l5 l2 l3 l4 M5 (fun r9 M10 => if r9 = true then (mj_tag M10 l5 = 4 ∧ vb_X4_canPutBetween_19 post f l0 l1 l2 l3 l4 (mj_r M10 l5 1) M10) else (post false M10))) else (mj_tag M5 l5 = 4 ∧ vb_X4_canPutBetween_19 post f l0 l1 l2 l3 l4 (mj_r M5 l5 1) M5))) else (vb_X4_canPutBetween_19 post f l0 l1 l2 l3 l4 (mj_r M l5 1) M))
def vc_X4_canPutBetween (l0 : Nat) (l1 : Nat) (l2 : Int32) (l3 : Int32) (l4 : Int32) (M : mj_M) (post : Bool → mj_M → Prop) : Prop := mj_tag M l1 = 4 ∧ vc_X3_holds l1 l2 l3 l4 M (fun r14 M15 => if r14 = true then (mj_tag M15 l0 = 5 ∧ ∃ fe, vb_X4_canPutBetween_19 post fe l0 l1 l2 l3 l4 (mj_r M15 l0 1) M15) else (post false M15))
set_option maxHeartbeats 4000000 in
set_option maxRecDepth 100000 in
theorem xb_X4_canPutBetween_19 {g : mj_G} {post : Bool → mj_M → Prop} (hC : mj_C g yX4_canPutBetween cX4_canPutBetween 6 (some .boolean) rm_X4_canPutBetween) (hE : mj_E g mj_jB post 0 0) : ∀ (f : Nat) (l0 : Nat) (l1 : Nat) (l2 : Int32) (l3 : Int32) (l4 : Int32) (l5 : Nat) (M : mj_M), vb_X4_canPutBetween_19 post f l0 l1 l2 l3 l4 l5 M → mj_X g 19 [(0, vR l0), (1, vR l1), (2, vI l2), (3, vI l3), (4, vI l4), (5, vR l5)] [] M 0 0 := by
  intro f
  induction f with
  | zero => exact fun _ _ _ _ _ _ _ h => absurd h (fun z => z)
  | succ f ih =>
    intro l0 l1 l2 l3 l4 l5 M h
    simp only [vb_X4_canPutBetween_19] at h
    refine mx_aload (j := 5) hC dX4_canPutBetween_19 rfl ?_
    refine mx_ifnull (tgt := 70) hC dX4_canPutBetween_21 (by decide) (fun hc1 => ?_) (fun hc1 => ?_)
    · replace h := mj_yy hc1 h
      refine mx_iconst (v := 1) hC dX4_canPutBetween_70 (by decide) ?_
      exact mx_zret (b := true) hC hE rfl dX4_canPutBetween_71 h
    · replace h := mj_nn hc1 h
      refine mx_aload (j := 5) hC dX4_canPutBetween_24 rfl ?_
      obtain ⟨ht2, h⟩ := h
      refine mx_get (v := vR (mj_r M l5 2)) hC tf_X4_51 ht2 rfl dX4_canPutBetween_26 ?_
      refine mx_aload_n (j := 1) hC dX4_canPutBetween_29 rfl rfl ?_
      refine mx_acmpne (tgt := 60) hC dX4_canPutBetween_30 (by decide) (fun hc3 => ?_) (fun hc3 => ?_)
      · replace h := mj_nn hc3 h
        refine mx_aload (j := 5) hC dX4_canPutBetween_60 rfl ?_
        refine mx_get (v := vR (mj_r M l5 1)) hC tf_X4_44 ht2 rfl dX4_canPutBetween_62 ?_
        refine mx_astore (L' := [(5, vR (mj_r M l5 1)), (0, vR l0), (1, vR l1), (2, vI l2), (3, vI l3), (4, vI l4)]) hC dX4_canPutBetween_65 (by decide) rfl ?_
        refine mx_goto (tgt := 19) hC dX4_canPutBetween_67 (by decide) ?_
        refine mx_sub (L' := [(0, vR l0), (1, vR l1), (2, vI l2), (3, vI l3), (4, vI l4), (5, vR (mj_r M l5 1))]) [1, 2, 3, 4, 5, 0] rfl ?_
        exact show mj_X g 19 [(0, vR l0), (1, vR l1), (2, vI l2), (3, vI l3), (4, vI l4), (5, vR (mj_r M l5 1))] [] M 0 0 from (ih l0 l1 l2 l3 l4 (mj_r M l5 1) M h)
      · replace h := mj_yy hc3 h
        refine mx_aload (j := 5) hC dX4_canPutBetween_33 rfl ?_
        refine mx_iload_n (j := 2) hC dX4_canPutBetween_35 rfl rfl ?_
        refine mx_iload_n (j := 3) hC dX4_canPutBetween_36 rfl rfl ?_
        refine mx_iload (j := 4) hC dX4_canPutBetween_37 rfl ?_
        refine mx_callV (inj := mj_jB) (As := [vI l2, vI l3, vI l4]) (st := []) hC (ct_X3_meets l5 l2 l3 l4 M _ h) ty_X3_meets tw425 ht2 rfl (Nat.le_of_ble_eq_true rfl) ⟨rfl, rfl, ⟨by decide, by decide⟩, by decide, by decide⟩ dX4_canPutBetween_39 (fun r4 M5 h => ?_)
        show mj_X g 42 [(0, vR l0), (1, vR l1), (2, vI l2), (3, vI l3), (4, vI l4), (5, vR l5)] [vI (mj_b r4)] M5 0 0
        refine mx_ifeqB (tgt := 60) hC dX4_canPutBetween_42 (by decide) (fun hc6 => ?_) (fun hc6 => ?_)
        · replace h := mj_nn hc6 h
          refine mx_aload (j := 5) hC dX4_canPutBetween_60 rfl ?_
          obtain ⟨ht7, h⟩ := h
          refine mx_get (v := vR (mj_r M5 l5 1)) hC tf_X4_44 ht7 rfl dX4_canPutBetween_62 ?_
          refine mx_astore (L' := [(5, vR (mj_r M5 l5 1)), (0, vR l0), (1, vR l1), (2, vI l2), (3, vI l3), (4, vI l4)]) hC dX4_canPutBetween_65 (by decide) rfl ?_
          refine mx_goto (tgt := 19) hC dX4_canPutBetween_67 (by decide) ?_
          refine mx_sub (L' := [(0, vR l0), (1, vR l1), (2, vI l2), (3, vI l3), (4, vI l4), (5, vR (mj_r M5 l5 1))]) [1, 2, 3, 4, 5, 0] rfl ?_
          exact show mj_X g 19 [(0, vR l0), (1, vR l1), (2, vI l2), (3, vI l3), (4, vI l4), (5, vR (mj_r M5 l5 1))] [] M5 0 0 from (ih l0 l1 l2 l3 l4 (mj_r M5 l5 1) M5 h)
        · replace h := mj_yy hc6 h
          refine mx_aload_n (j := 0) hC dX4_canPutBetween_45 rfl rfl ?_
          refine mx_aload (j := 5) hC dX4_canPutBetween_46 rfl ?_
          refine mx_iload_n (j := 2) hC dX4_canPutBetween_48 rfl rfl ?_
          refine mx_iload_n (j := 3) hC dX4_canPutBetween_49 rfl rfl ?_
          refine mx_iload (j := 4) hC dX4_canPutBetween_50 rfl ?_
          obtain ⟨ht8, h⟩ := h
          refine mx_callV (inj := mj_jB) (As := [vR l5, vI l2, vI l3, vI l4]) (st := []) hC (ct_X4_keepsWithin l0 l5 l2 l3 l4 M5 _ h) ty_X4_keepsWithin tw443 ht8 rfl (Nat.le_of_ble_eq_true rfl) ⟨rfl, rfl, ⟨by decide, by decide⟩, by decide, by decide⟩ dX4_canPutBetween_52 (fun r9 M10 h => ?_)
          show mj_X g 55 [(0, vR l0), (1, vR l1), (2, vI l2), (3, vI l3), (4, vI l4), (5, vR l5)] [vI (mj_b r9)] M10 0 0
          refine mx_ifneB (tgt := 60) hC dX4_canPutBetween_55 (by decide) (fun hc11 => ?_) (fun hc11 => ?_)
          · replace h := mj_yy hc11 h
            refine mx_aload (j := 5) hC dX4_canPutBetween_60 rfl ?_
            obtain ⟨ht12, h⟩ := h
            refine mx_get (v := vR (mj_r M10 l5 1)) hC tf_X4_44 ht12 rfl dX4_canPutBetween_62 ?_
            refine mx_astore (L' := [(5, vR (mj_r M10 l5 1)), (0, vR l0), (1, vR l1), (2, vI l2), (3, vI l3), (4, vI l4)]) hC dX4_canPutBetween_65 (by decide) rfl ?_
            refine mx_goto (tgt := 19) hC dX4_canPutBetween_67 (by decide) ?_
            refine mx_sub (L' := [(0, vR l0), (1, vR l1), (2, vI l2), (3, vI l3), (4, vI l4), (5, vR (mj_r M10 l5 1))]) [1, 2, 3, 4, 5, 0] rfl ?_
            exact show mj_X g 19 [(0, vR l0), (1, vR l1), (2, vI l2), (3, vI l3), (4, vI l4), (5, vR (mj_r M10 l5 1))] [] M10 0 0 from (ih l0 l1 l2 l3 l4 (mj_r M10 l5 1) M10 h)
          · replace h := mj_nn hc11 h
            refine mx_iconst (v := 0) hC dX4_canPutBetween_58 (by decide) ?_
            exact mx_zret (b := false) hC hE rfl dX4_canPutBetween_59 h
set_option maxHeartbeats 4000000 in
set_option maxRecDepth 100000 in
theorem ct_X4_canPutBetween {l : Launch} {base : Nat} {D : va_G} {A : ClassId × ClassId × ClassId} (l0 : Nat) (l1 : Nat) (l2 : Int32) (l3 : Int32) (l4 : Int32) (M : mj_M) (post : Bool → mj_M → Prop) (h : vc_X4_canPutBetween l0 l1 l2 l3 l4 M post) : mj_Met l base D A mj_jB yX4_canPutBetween cX4_canPutBetween 6 (some .boolean) rm_X4_canPutBetween 0 0 [vR l0, vR l1, vI l2, vI l3, vI l4] M post := by
  refine mj_entry (by decide +kernel) (Nat.le_of_ble_eq_true rfl) (fun g hC hE h1 h2 h3 h4 => ?_)
  show mj_X g 0 [(0, vR l0), (1, vR l1), (2, vI l2), (3, vI l3), (4, vI l4)] [] M 0 0
  simp only [vc_X4_canPutBetween] at h
  refine mx_aload_n (j := 1) hC dX4_canPutBetween_0 rfl rfl ?_
  refine mx_iload_n (j := 2) hC dX4_canPutBetween_1 rfl rfl ?_
  refine mx_iload_n (j := 3) hC dX4_canPutBetween_2 rfl rfl ?_
  refine mx_iload (j := 4) hC dX4_canPutBetween_3 rfl ?_
  obtain ⟨ht13, h⟩ := h
  refine mx_callV (inj := mj_jB) (As := [vI l2, vI l3, vI l4]) (st := []) hC (ct_X3_holds l1 l2 l3 l4 M _ h) ty_X3_holds tw409 ht13 rfl (Nat.le_of_ble_eq_true rfl) ⟨rfl, rfl, ⟨by decide, by decide⟩, by decide, by decide⟩ dX4_canPutBetween_5 (fun r14 M15 h => ?_)
  show mj_X g 8 [(0, vR l0), (1, vR l1), (2, vI l2), (3, vI l3), (4, vI l4)] [vI (mj_b r14)] M15 0 0
  refine mx_ifneB (tgt := 13) hC dX4_canPutBetween_8 (by decide) (fun hc16 => ?_) (fun hc16 => ?_)
  · replace h := mj_yy hc16 h
    refine mx_aload_n (j := 0) hC dX4_canPutBetween_13 rfl rfl ?_
    obtain ⟨ht17, h⟩ := h
    refine mx_get (v := vR (mj_r M15 l0 1)) hC tf_X4_37 ht17 rfl dX4_canPutBetween_14 ?_
    refine mx_astore (L' := [(5, vR (mj_r M15 l0 1)), (0, vR l0), (1, vR l1), (2, vI l2), (3, vI l3), (4, vI l4)]) hC dX4_canPutBetween_17 (by decide) rfl ?_
    refine mx_sub (L' := [(0, vR l0), (1, vR l1), (2, vI l2), (3, vI l3), (4, vI l4), (5, vR (mj_r M15 l0 1))]) [1, 2, 3, 4, 5, 0] rfl ?_
    obtain ⟨fe, h⟩ := h
    exact show mj_X g 19 [(0, vR l0), (1, vR l1), (2, vI l2), (3, vI l3), (4, vI l4), (5, vR (mj_r M15 l0 1))] [] M15 0 0 from (xb_X4_canPutBetween_19 hC hE fe l0 l1 l2 l3 l4 (mj_r M15 l0 1) M15 h)
  · replace h := mj_nn hc16 h
    refine mx_iconst (v := 0) hC dX4_canPutBetween_11 (by decide) ?_
    exact mx_zret (b := false) hC hE rfl dX4_canPutBetween_12 h
theorem tw334 : (Jvm.Cond.fieldLink "LeaseLand$Land" (88 : Nat) "LeaseLand$Holding" "to" "I") ∈ mj_tbl := mj_w 387 (by decide +kernel) (by decide +kernel)
theorem tf_X4_88 : mj_F 3 5 .int false "LeaseLand$Land" 88 := ⟨_, tk3, by decide, rfl, rfl, rfl, tw334⟩
theorem tw453 : (Jvm.Cond.methodLink "LeaseLand$Land" (91 : Nat) ({ cls := "LeaseLand$Land", name := "add", desc := "(LLeaseLand$Holding;)I" } : Jvm.MethodName)) ∈ mj_tbl := mj_w 506 (by decide +kernel) (by decide +kernel)
theorem tw392 : (Jvm.Cond.code ({ cls := "LeaseLand$Land", name := "add", desc := "(LLeaseLand$Holding;)I" } : Jvm.MethodName) prog_6_method_7_code (2 : Nat) (Option.some Jvm.ClassFile.FieldType.int)) ∈ mj_tbl := mj_w 445 (by decide +kernel) (by decide +kernel)
theorem tw390 : (Jvm.Cond.instanceMethod ({ cls := "LeaseLand$Land", name := "add", desc := "(LLeaseLand$Holding;)I" } : Jvm.MethodName)) ∈ mj_tbl := mj_w 443 (by decide +kernel) (by decide +kernel)
theorem tw391 : (Jvm.Cond.selects "LeaseLand$Land" ({ cls := "LeaseLand$Land", name := "add", desc := "(LLeaseLand$Holding;)I" } : Jvm.MethodName) ({ cls := "LeaseLand$Land", name := "add", desc := "(LLeaseLand$Holding;)I" } : Jvm.MethodName)) ∈ mj_tbl := mj_w 444 (by decide +kernel) (by decide +kernel)
theorem ty_X4_add : mj_YV 4 yX4_add cX4_add 2 (some .int) 1 := ⟨⟨tw392, tw2, by decide +kernel, by decide +kernel, by decide +kernel⟩, tw390, tw391, _, rfl, rfl⟩
def rm_X4_putBetween : Room := { frames := 2, cells := 0, slots := 0, locals := 44 }
theorem dX4_putBetween_0 : decode cX4_putBetween 0 = .ok (.aload_n 0, 1) := by decide +kernel
theorem dX4_putBetween_1 : decode cX4_putBetween 1 = .ok (.getfield 37, 3) := by decide +kernel
theorem dX4_putBetween_4 : decode cX4_putBetween 4 = .ok (.astore_n 2, 1) := by decide +kernel
theorem dX4_putBetween_5 : decode cX4_putBetween 5 = .ok (.aload_n 2, 1) := by decide +kernel
theorem dX4_putBetween_6 : decode cX4_putBetween 6 = .ok (.ifnull 46, 3) := by decide +kernel
theorem dX4_putBetween_9 : decode cX4_putBetween 9 = .ok (.aload_n 2, 1) := by decide +kernel
theorem dX4_putBetween_10 : decode cX4_putBetween 10 = .ok (.getfield 51, 3) := by decide +kernel
theorem dX4_putBetween_13 : decode cX4_putBetween 13 = .ok (.aload_n 1, 1) := by decide +kernel
theorem dX4_putBetween_14 : decode cX4_putBetween 14 = .ok (.getfield 51, 3) := by decide +kernel
theorem dX4_putBetween_17 : decode cX4_putBetween 17 = .ok (.if_acmp .ne 27, 3) := by decide +kernel
theorem dX4_putBetween_20 : decode cX4_putBetween 20 = .ok (.aload_n 2, 1) := by decide +kernel
theorem dX4_putBetween_21 : decode cX4_putBetween 21 = .ok (.aload_n 1, 1) := by decide +kernel
theorem dX4_putBetween_22 : decode cX4_putBetween 22 = .ok (.getfield 57, 3) := by decide +kernel
theorem dX4_putBetween_25 : decode cX4_putBetween 25 = .ok (.aload_n 1, 1) := by decide +kernel
theorem dX4_putBetween_26 : decode cX4_putBetween 26 = .ok (.getfield 75, 3) := by decide +kernel
theorem dX4_putBetween_29 : decode cX4_putBetween 29 = .ok (.aload_n 1, 1) := by decide +kernel
theorem dX4_putBetween_30 : decode cX4_putBetween 30 = .ok (.getfield 88, 3) := by decide +kernel
theorem dX4_putBetween_33 : decode cX4_putBetween 33 = .ok (.invokevirtual 60, 3) := by decide +kernel
theorem dX4_putBetween_36 : decode cX4_putBetween 36 = .ok (.ifCond .eq 8, 3) := by decide +kernel
theorem dX4_putBetween_39 : decode cX4_putBetween 39 = .ok (.aload_n 2, 1) := by decide +kernel
theorem dX4_putBetween_40 : decode cX4_putBetween 40 = .ok (.aload_n 1, 1) := by decide +kernel
theorem dX4_putBetween_41 : decode cX4_putBetween 41 = .ok (.putfield 51, 3) := by decide +kernel
theorem dX4_putBetween_44 : decode cX4_putBetween 44 = .ok (.aload_n 2, 1) := by decide +kernel
theorem dX4_putBetween_45 : decode cX4_putBetween 45 = .ok (.getfield 44, 3) := by decide +kernel
theorem dX4_putBetween_48 : decode cX4_putBetween 48 = .ok (.astore_n 2, 1) := by decide +kernel
theorem dX4_putBetween_49 : decode cX4_putBetween 49 = .ok (.goto (-44), 3) := by decide +kernel
theorem dX4_putBetween_52 : decode cX4_putBetween 52 = .ok (.aload_n 0, 1) := by decide +kernel
theorem dX4_putBetween_53 : decode cX4_putBetween 53 = .ok (.aload_n 1, 1) := by decide +kernel
theorem dX4_putBetween_54 : decode cX4_putBetween 54 = .ok (.invokevirtual 91, 3) := by decide +kernel
theorem dX4_putBetween_57 : decode cX4_putBetween 57 = .ok (.ireturn, 1) := by decide +kernel
def vb_X4_putBetween_5 (post : Int32 → mj_M → Prop) : Nat → Nat → Nat → Nat → mj_M → Prop
  | 0 => fun _ _ _ _ => False
  | f + 1 => fun l0 l1 l2 M => if l2 = 0 then (mj_tag M l0 = 5 ∧ vc_X4_add l0 l1 M (fun r3 M4 => post r3 M4)) else (mj_tag M l2 = 4 ∧ mj_tag M l1 = 4 ∧ if (mj_r M l2 2) = (mj_r M l1 2) then (vc_X3_meets l2 (mj_i M l1 3) (mj_i M l1 4) (mj_i M l1 5) M (fun r8 M9 => if r8 = true then (mj_tag M9 l2 = 4 ∧ vb_X4_putBetween_5 post f l0 l1 (mj_r (mj_wr M9 l2 2 l1) l2 1) (mj_wr M9 l2 2 l1)) else (mj_tag M9 l2 = 4 ∧ vb_X4_putBetween_5 post f l0 l1 (mj_r M9 l2 1) M9))) else (vb_X4_putBetween_5 post f l0 l1 (mj_r M l2 1) M))
def vc_X4_putBetween (l0 : Nat) (l1 : Nat) (M : mj_M) (post : Int32 → mj_M → Prop) : Prop := mj_tag M l0 = 5 ∧ ∃ fe, vb_X4_putBetween_5 post fe l0 l1 (mj_r M l0 1) M
set_option maxHeartbeats 4000000 in
set_option maxRecDepth 100000 in
theorem xb_X4_putBetween_5 {g : mj_G} {post : Int32 → mj_M → Prop} (hC : mj_C g yX4_putBetween cX4_putBetween 3 (some .int) rm_X4_putBetween) (hE : mj_E g mj_jI post 0 0) : ∀ (f : Nat) (l0 : Nat) (l1 : Nat) (l2 : Nat) (M : mj_M), vb_X4_putBetween_5 post f l0 l1 l2 M → mj_X g 5 [(0, vR l0), (1, vR l1), (2, vR l2)] [] M 0 0 := by
  intro f
  induction f with
  | zero => exact fun _ _ _ _ h => absurd h (fun z => z)
  | succ f ih =>
    intro l0 l1 l2 M h
    simp only [vb_X4_putBetween_5] at h
    refine mx_aload_n (j := 2) hC dX4_putBetween_5 rfl rfl ?_
    refine mx_ifnull (tgt := 52) hC dX4_putBetween_6 (by decide) (fun hc1 => ?_) (fun hc1 => ?_)
    · replace h := mj_yy hc1 h
      refine mx_aload_n (j := 0) hC dX4_putBetween_52 rfl rfl ?_
      refine mx_aload_n (j := 1) hC dX4_putBetween_53 rfl rfl ?_
      obtain ⟨ht2, h⟩ := h
      refine mx_callV (inj := mj_jI) (As := [vR l1]) (st := []) hC (ct_X4_add l0 l1 M _ h) ty_X4_add tw453 ht2 rfl (Nat.le_of_ble_eq_true rfl) ⟨rfl, rfl, ⟨by decide, by decide⟩, by decide, by decide⟩ dX4_putBetween_54 (fun r3 M4 h => ?_)
      show mj_X g 57 [(0, vR l0), (1, vR l1), (2, vR l2)] [vI r3] M4 0 0
      exact mx_iret hC hE rfl dX4_putBetween_57 h
    · replace h := mj_nn hc1 h
      refine mx_aload_n (j := 2) hC dX4_putBetween_9 rfl rfl ?_
      obtain ⟨ht5, h⟩ := h
      refine mx_get (v := vR (mj_r M l2 2)) hC tf_X4_51 ht5 rfl dX4_putBetween_10 ?_
      refine mx_aload_n (j := 1) hC dX4_putBetween_13 rfl rfl ?_
      obtain ⟨ht6, h⟩ := h
      refine mx_get (v := vR (mj_r M l1 2)) hC tf_X4_51 ht6 rfl dX4_putBetween_14 ?_
      refine mx_acmpne (tgt := 44) hC dX4_putBetween_17 (by decide) (fun hc7 => ?_) (fun hc7 => ?_)
      · replace h := mj_nn hc7 h
        refine mx_aload_n (j := 2) hC dX4_putBetween_44 rfl rfl ?_
        refine mx_get (v := vR (mj_r M l2 1)) hC tf_X4_44 ht5 rfl dX4_putBetween_45 ?_
        refine mx_astore_n (L' := [(2, vR (mj_r M l2 1)), (0, vR l0), (1, vR l1)]) hC dX4_putBetween_48 rfl (by decide) rfl ?_
        refine mx_goto (tgt := 5) hC dX4_putBetween_49 (by decide) ?_
        refine mx_sub (L' := [(0, vR l0), (1, vR l1), (2, vR (mj_r M l2 1))]) [1, 2, 0] rfl ?_
        exact show mj_X g 5 [(0, vR l0), (1, vR l1), (2, vR (mj_r M l2 1))] [] M 0 0 from (ih l0 l1 (mj_r M l2 1) M h)
      · replace h := mj_yy hc7 h
        refine mx_aload_n (j := 2) hC dX4_putBetween_20 rfl rfl ?_
        refine mx_aload_n (j := 1) hC dX4_putBetween_21 rfl rfl ?_
        refine mx_get (v := vI (mj_i M l1 3)) hC tf_X4_57 ht6 rfl dX4_putBetween_22 ?_
        refine mx_aload_n (j := 1) hC dX4_putBetween_25 rfl rfl ?_
        refine mx_get (v := vI (mj_i M l1 4)) hC tf_X4_75 ht6 rfl dX4_putBetween_26 ?_
        refine mx_aload_n (j := 1) hC dX4_putBetween_29 rfl rfl ?_
        refine mx_get (v := vI (mj_i M l1 5)) hC tf_X4_88 ht6 rfl dX4_putBetween_30 ?_
        refine mx_callV (inj := mj_jB) (As := [vI (mj_i M l1 3), vI (mj_i M l1 4), vI (mj_i M l1 5)]) (st := []) hC (ct_X3_meets l2 (mj_i M l1 3) (mj_i M l1 4) (mj_i M l1 5) M _ h) ty_X3_meets tw425 ht5 rfl (Nat.le_of_ble_eq_true rfl) ⟨rfl, rfl, ⟨by decide, by decide⟩, by decide, by decide⟩ dX4_putBetween_33 (fun r8 M9 h => ?_)
        show mj_X g 36 [(0, vR l0), (1, vR l1), (2, vR l2)] [vI (mj_b r8)] M9 0 0
        refine mx_ifeqB (tgt := 44) hC dX4_putBetween_36 (by decide) (fun hc10 => ?_) (fun hc10 => ?_)
        · replace h := mj_nn hc10 h
          refine mx_aload_n (j := 2) hC dX4_putBetween_44 rfl rfl ?_
          obtain ⟨ht11, h⟩ := h
          refine mx_get (v := vR (mj_r M9 l2 1)) hC tf_X4_44 ht11 rfl dX4_putBetween_45 ?_
          refine mx_astore_n (L' := [(2, vR (mj_r M9 l2 1)), (0, vR l0), (1, vR l1)]) hC dX4_putBetween_48 rfl (by decide) rfl ?_
          refine mx_goto (tgt := 5) hC dX4_putBetween_49 (by decide) ?_
          refine mx_sub (L' := [(0, vR l0), (1, vR l1), (2, vR (mj_r M9 l2 1))]) [1, 2, 0] rfl ?_
          exact show mj_X g 5 [(0, vR l0), (1, vR l1), (2, vR (mj_r M9 l2 1))] [] M9 0 0 from (ih l0 l1 (mj_r M9 l2 1) M9 h)
        · replace h := mj_yy hc10 h
          refine mx_aload_n (j := 2) hC dX4_putBetween_39 rfl rfl ?_
          refine mx_aload_n (j := 1) hC dX4_putBetween_40 rfl rfl ?_
          obtain ⟨ht12, h⟩ := h
          refine mx_put (v := vR l1) (M1 := mj_wr M9 l2 2 l1) hC tf_X4_51 ht12 (Or.inl rfl) (mj_fitR l1 _) (mj_off_wr _ _ _ _) mj_put_wr dX4_putBetween_41 ?_
          refine mx_aload_n (j := 2) hC dX4_putBetween_44 rfl rfl ?_
          refine mx_get (v := vR (mj_r (mj_wr M9 l2 2 l1) l2 1)) hC tf_X4_44 ht12 rfl dX4_putBetween_45 ?_
          refine mx_astore_n (L' := [(2, vR (mj_r (mj_wr M9 l2 2 l1) l2 1)), (0, vR l0), (1, vR l1)]) hC dX4_putBetween_48 rfl (by decide) rfl ?_
          refine mx_goto (tgt := 5) hC dX4_putBetween_49 (by decide) ?_
          refine mx_sub (L' := [(0, vR l0), (1, vR l1), (2, vR (mj_r (mj_wr M9 l2 2 l1) l2 1))]) [1, 2, 0] rfl ?_
          exact show mj_X g 5 [(0, vR l0), (1, vR l1), (2, vR (mj_r (mj_wr M9 l2 2 l1) l2 1))] [] (mj_wr M9 l2 2 l1) 0 0 from (ih l0 l1 (mj_r (mj_wr M9 l2 2 l1) l2 1) (mj_wr M9 l2 2 l1) h)
set_option maxHeartbeats 4000000 in
set_option maxRecDepth 100000 in
theorem ct_X4_putBetween {l : Launch} {base : Nat} {D : va_G} {A : ClassId × ClassId × ClassId} (l0 : Nat) (l1 : Nat) (M : mj_M) (post : Int32 → mj_M → Prop) (h : vc_X4_putBetween l0 l1 M post) : mj_Met l base D A mj_jI yX4_putBetween cX4_putBetween 3 (some .int) rm_X4_putBetween 0 0 [vR l0, vR l1] M post := by
  refine mj_entry (by decide +kernel) (Nat.le_of_ble_eq_true rfl) (fun g hC hE h1 h2 h3 h4 => ?_)
  show mj_X g 0 [(0, vR l0), (1, vR l1)] [] M 0 0
  simp only [vc_X4_putBetween] at h
  refine mx_aload_n (j := 0) hC dX4_putBetween_0 rfl rfl ?_
  obtain ⟨ht13, h⟩ := h
  refine mx_get (v := vR (mj_r M l0 1)) hC tf_X4_37 ht13 rfl dX4_putBetween_1 ?_
  refine mx_astore_n (L' := [(2, vR (mj_r M l0 1)), (0, vR l0), (1, vR l1)]) hC dX4_putBetween_4 rfl (by decide) rfl ?_
  refine mx_sub (L' := [(0, vR l0), (1, vR l1), (2, vR (mj_r M l0 1))]) [1, 2, 0] rfl ?_
  obtain ⟨fe, h⟩ := h
  exact show mj_X g 5 [(0, vR l0), (1, vR l1), (2, vR (mj_r M l0 1))] [] M 0 0 from (xb_X4_putBetween_5 hC hE fe l0 l1 (mj_r M l0 1) M h)
theorem tw479 : (Jvm.Cond.methodLink "LeaseLand$Land" (95 : Nat) ({ cls := "LeaseLand$Holding", name := "hasFloors", desc := "(I)Z" } : Jvm.MethodName)) ∈ mj_tbl := mj_w 532 (by decide +kernel) (by decide +kernel)
def rm_X4_canSplit : Room := { frames := 1, cells := 0, slots := 0, locals := 21 }
theorem dX4_canSplit_0 : decode cX4_canSplit 0 = .ok (.aload_n 1, 1) := by decide +kernel
theorem dX4_canSplit_1 : decode cX4_canSplit 1 = .ok (.iload_n 2, 1) := by decide +kernel
theorem dX4_canSplit_2 : decode cX4_canSplit 2 = .ok (.invokevirtual 95, 3) := by decide +kernel
theorem dX4_canSplit_5 : decode cX4_canSplit 5 = .ok (.ifCond .eq 11, 3) := by decide +kernel
theorem dX4_canSplit_8 : decode cX4_canSplit 8 = .ok (.iload_n 2, 1) := by decide +kernel
theorem dX4_canSplit_9 : decode cX4_canSplit 9 = .ok (.aload_n 1, 1) := by decide +kernel
theorem dX4_canSplit_10 : decode cX4_canSplit 10 = .ok (.getfield 57, 3) := by decide +kernel
theorem dX4_canSplit_13 : decode cX4_canSplit 13 = .ok (.if_icmp .ne 5, 3) := by decide +kernel
theorem dX4_canSplit_16 : decode cX4_canSplit 16 = .ok (.iconst 0, 1) := by decide +kernel
theorem dX4_canSplit_17 : decode cX4_canSplit 17 = .ok (.ireturn, 1) := by decide +kernel
theorem dX4_canSplit_18 : decode cX4_canSplit 18 = .ok (.aload_n 0, 1) := by decide +kernel
theorem dX4_canSplit_19 : decode cX4_canSplit 19 = .ok (.getfield 37, 3) := by decide +kernel
theorem dX4_canSplit_22 : decode cX4_canSplit 22 = .ok (.astore_n 3, 1) := by decide +kernel
theorem dX4_canSplit_23 : decode cX4_canSplit 23 = .ok (.aload_n 3, 1) := by decide +kernel
theorem dX4_canSplit_24 : decode cX4_canSplit 24 = .ok (.ifnull 64, 3) := by decide +kernel
theorem dX4_canSplit_27 : decode cX4_canSplit 27 = .ok (.aload_n 3, 1) := by decide +kernel
theorem dX4_canSplit_28 : decode cX4_canSplit 28 = .ok (.getfield 57, 3) := by decide +kernel
theorem dX4_canSplit_31 : decode cX4_canSplit 31 = .ok (.iload_n 2, 1) := by decide +kernel
theorem dX4_canSplit_32 : decode cX4_canSplit 32 = .ok (.iand, 1) := by decide +kernel
theorem dX4_canSplit_33 : decode cX4_canSplit 33 = .ok (.ifCond .eq 18, 3) := by decide +kernel
theorem dX4_canSplit_36 : decode cX4_canSplit 36 = .ok (.aload_n 3, 1) := by decide +kernel
theorem dX4_canSplit_37 : decode cX4_canSplit 37 = .ok (.getfield 57, 3) := by decide +kernel
theorem dX4_canSplit_40 : decode cX4_canSplit 40 = .ok (.iload_n 2, 1) := by decide +kernel
theorem dX4_canSplit_41 : decode cX4_canSplit 41 = .ok (.iconst (-1), 1) := by decide +kernel
theorem dX4_canSplit_42 : decode cX4_canSplit 42 = .ok (.ixor, 1) := by decide +kernel
theorem dX4_canSplit_43 : decode cX4_canSplit 43 = .ok (.iand, 1) := by decide +kernel
theorem dX4_canSplit_44 : decode cX4_canSplit 44 = .ok (.ifCond .eq 7, 3) := by decide +kernel
theorem dX4_canSplit_47 : decode cX4_canSplit 47 = .ok (.iconst 1, 1) := by decide +kernel
theorem dX4_canSplit_48 : decode cX4_canSplit 48 = .ok (.goto 4, 3) := by decide +kernel
theorem dX4_canSplit_51 : decode cX4_canSplit 51 = .ok (.iconst 0, 1) := by decide +kernel
theorem dX4_canSplit_52 : decode cX4_canSplit 52 = .ok (.istore 4, 2) := by decide +kernel
theorem dX4_canSplit_54 : decode cX4_canSplit 54 = .ok (.aload_n 3, 1) := by decide +kernel
theorem dX4_canSplit_55 : decode cX4_canSplit 55 = .ok (.getfield 51, 3) := by decide +kernel
theorem dX4_canSplit_58 : decode cX4_canSplit 58 = .ok (.aload_n 1, 1) := by decide +kernel
theorem dX4_canSplit_59 : decode cX4_canSplit 59 = .ok (.if_acmp .ne 21, 3) := by decide +kernel
theorem dX4_canSplit_62 : decode cX4_canSplit 62 = .ok (.aload_n 3, 1) := by decide +kernel
theorem dX4_canSplit_63 : decode cX4_canSplit 63 = .ok (.invokevirtual 84, 3) := by decide +kernel
theorem dX4_canSplit_66 : decode cX4_canSplit 66 = .ok (.aload_n 0, 1) := by decide +kernel
theorem dX4_canSplit_67 : decode cX4_canSplit 67 = .ok (.getfield 28, 3) := by decide +kernel
theorem dX4_canSplit_70 : decode cX4_canSplit 70 = .ok (.if_icmp .le 10, 3) := by decide +kernel
theorem dX4_canSplit_73 : decode cX4_canSplit 73 = .ok (.iload 4, 2) := by decide +kernel
theorem dX4_canSplit_75 : decode cX4_canSplit 75 = .ok (.ifCond .eq 5, 3) := by decide +kernel
theorem dX4_canSplit_78 : decode cX4_canSplit 78 = .ok (.iconst 0, 1) := by decide +kernel
theorem dX4_canSplit_79 : decode cX4_canSplit 79 = .ok (.ireturn, 1) := by decide +kernel
theorem dX4_canSplit_80 : decode cX4_canSplit 80 = .ok (.aload_n 3, 1) := by decide +kernel
theorem dX4_canSplit_81 : decode cX4_canSplit 81 = .ok (.getfield 44, 3) := by decide +kernel
theorem dX4_canSplit_84 : decode cX4_canSplit 84 = .ok (.astore_n 3, 1) := by decide +kernel
theorem dX4_canSplit_85 : decode cX4_canSplit 85 = .ok (.goto (-62), 3) := by decide +kernel
theorem dX4_canSplit_88 : decode cX4_canSplit 88 = .ok (.iconst 1, 1) := by decide +kernel
theorem dX4_canSplit_89 : decode cX4_canSplit 89 = .ok (.ireturn, 1) := by decide +kernel
def vb_X4_canSplit_52 (k23 : Nat → Nat → Int32 → Nat → mj_M → Prop) (post : Bool → mj_M → Prop) (l0 : Nat) (l1 : Nat) (l2 : Int32) (l3 : Nat) (s0 : Bool) (M : mj_M) : Prop := mj_tag M l3 = 4 ∧ if (mj_r M l3 2) = l1 then (vc_X3_until l3 M (fun r3 M4 => mj_tag M4 l0 = 5 ∧ if r3 ≤ (mj_i M4 l0 0) then (mj_tag M4 l3 = 4 ∧ k23 l0 l1 l2 (mj_r M4 l3 1) M4) else (if s0 = true then (post false M4) else (mj_tag M4 l3 = 4 ∧ k23 l0 l1 l2 (mj_r M4 l3 1) M4)))) else (k23 l0 l1 l2 (mj_r M l3 1) M)
def vb_X4_canSplit_51 (k23 : Nat → Nat → Int32 → Nat → mj_M → Prop) (post : Bool → mj_M → Prop) (l0 : Nat) (l1 : Nat) (l2 : Int32) (l3 : Nat) (M : mj_M) : Prop := vb_X4_canSplit_52 k23 post l0 l1 l2 l3 false M
def vb_X4_canSplit_23 (post : Bool → mj_M → Prop) : Nat → Nat → Nat → Int32 → Nat → mj_M → Prop
  | 0 => fun _ _ _ _ _ => False
  | f + 1 => fun l0 l1 l2 l3 M => if l3 = 0 then (post true M) else (mj_tag M l3 = 4 ∧ if ((mj_i M l3 3) &&& l2) = 0 then (vb_X4_canSplit_51 (vb_X4_canSplit_23 post f) post l0 l1 l2 l3 M) else (if ((mj_i M l3 3) &&& (l2 ^^^ ((-1)))) = 0 then (vb_X4_canSplit_51 (vb_X4_canSplit_23 post f) post l0 l1 l2 l3 M) else (vb_X4_canSplit_52 (vb_X4_canSplit_23 post f) post l0 l1 l2 l3 true M)))
def vc_X4_canSplit (l0 : Nat) (l1 : Nat) (l2 : Int32) (M : mj_M) (post : Bool → mj_M → Prop) : Prop := mj_tag M l1 = 4 ∧ vc_X3_hasFloors l1 l2 M (fun r15 M16 => if r15 = true then (mj_tag M16 l1 = 4 ∧ if l2 = (mj_i M16 l1 3) then (post false M16) else (mj_tag M16 l0 = 5 ∧ ∃ fe, vb_X4_canSplit_23 post fe l0 l1 l2 (mj_r M16 l0 1) M16)) else (post false M16))
set_option maxHeartbeats 4000000 in
set_option maxRecDepth 100000 in
theorem xb_X4_canSplit_52 {g : mj_G} {post : Bool → mj_M → Prop} (hC : mj_C g yX4_canSplit cX4_canSplit 5 (some .boolean) rm_X4_canSplit) (hE : mj_E g mj_jB post 0 0) {k23 : Nat → Nat → Int32 → Nat → mj_M → Prop} (hk23 : ∀ (l0 : Nat) (l1 : Nat) (l2 : Int32) (l3 : Nat) (M : mj_M), k23 l0 l1 l2 l3 M → mj_X g 23 [(0, vR l0), (1, vR l1), (2, vI l2), (3, vR l3)] [] M 0 0) (l0 : Nat) (l1 : Nat) (l2 : Int32) (l3 : Nat) (s0 : Bool) (M : mj_M) (h : vb_X4_canSplit_52 k23 post l0 l1 l2 l3 s0 M) : mj_X g 52 [(0, vR l0), (1, vR l1), (2, vI l2), (3, vR l3)] [vI (mj_b s0)] M 0 0 := by
  simp only [vb_X4_canSplit_52] at h
  refine mx_istore (L' := [(4, vI (mj_b s0)), (0, vR l0), (1, vR l1), (2, vI l2), (3, vR l3)]) hC dX4_canSplit_52 (by decide) rfl ?_
  refine mx_aload_n (j := 4) hC dX4_canSplit_54 rfl rfl ?_
  obtain ⟨ht1, h⟩ := h
  refine mx_get (v := vR (mj_r M l3 2)) hC tf_X4_51 ht1 rfl dX4_canSplit_55 ?_
  refine mx_aload_n (j := 2) hC dX4_canSplit_58 rfl rfl ?_
  refine mx_acmpne (tgt := 80) hC dX4_canSplit_59 (by decide) (fun hc2 => ?_) (fun hc2 => ?_)
  · replace h := mj_nn hc2 h
    refine mx_aload_n (j := 4) hC dX4_canSplit_80 rfl rfl ?_
    refine mx_get (v := vR (mj_r M l3 1)) hC tf_X4_44 ht1 rfl dX4_canSplit_81 ?_
    refine mx_astore_n (L' := [(3, vR (mj_r M l3 1)), (4, vI (mj_b s0)), (0, vR l0), (1, vR l1), (2, vI l2)]) hC dX4_canSplit_84 rfl (by decide) rfl ?_
    refine mx_goto (tgt := 23) hC dX4_canSplit_85 (by decide) ?_
    refine mx_sub (L' := [(0, vR l0), (1, vR l1), (2, vI l2), (3, vR (mj_r M l3 1))]) [2, 3, 4, 0] rfl ?_
    exact show mj_X g 23 [(0, vR l0), (1, vR l1), (2, vI l2), (3, vR (mj_r M l3 1))] [] M 0 0 from (hk23 l0 l1 l2 (mj_r M l3 1) M h)
  · replace h := mj_yy hc2 h
    refine mx_aload_n (j := 4) hC dX4_canSplit_62 rfl rfl ?_
    refine mx_callV (inj := mj_jI) (As := []) (st := []) hC (ct_X3_until l3 M _ h) ty_X3_until tw448 ht1 rfl (Nat.le_of_ble_eq_true rfl) ⟨rfl, rfl, ⟨by decide, by decide⟩, by decide, by decide⟩ dX4_canSplit_63 (fun r3 M4 h => ?_)
    show mj_X g 66 [(4, vI (mj_b s0)), (0, vR l0), (1, vR l1), (2, vI l2), (3, vR l3)] [vI r3] M4 0 0
    refine mx_aload_n (j := 1) hC dX4_canSplit_66 rfl rfl ?_
    obtain ⟨ht5, h⟩ := h
    refine mx_get (v := vI (mj_i M4 l0 0)) hC tf_X4_28 ht5 rfl dX4_canSplit_67 ?_
    refine mx_icmple (tgt := 80) hC dX4_canSplit_70 (by decide) (fun hc6 => ?_) (fun hc6 => ?_)
    · replace h := mj_yy hc6 h
      refine mx_aload_n (j := 4) hC dX4_canSplit_80 rfl rfl ?_
      obtain ⟨ht7, h⟩ := h
      refine mx_get (v := vR (mj_r M4 l3 1)) hC tf_X4_44 ht7 rfl dX4_canSplit_81 ?_
      refine mx_astore_n (L' := [(3, vR (mj_r M4 l3 1)), (4, vI (mj_b s0)), (0, vR l0), (1, vR l1), (2, vI l2)]) hC dX4_canSplit_84 rfl (by decide) rfl ?_
      refine mx_goto (tgt := 23) hC dX4_canSplit_85 (by decide) ?_
      refine mx_sub (L' := [(0, vR l0), (1, vR l1), (2, vI l2), (3, vR (mj_r M4 l3 1))]) [2, 3, 4, 0] rfl ?_
      exact show mj_X g 23 [(0, vR l0), (1, vR l1), (2, vI l2), (3, vR (mj_r M4 l3 1))] [] M4 0 0 from (hk23 l0 l1 l2 (mj_r M4 l3 1) M4 h)
    · replace h := mj_nn hc6 h
      refine mx_iload (j := 0) hC dX4_canSplit_73 rfl ?_
      refine mx_ifeqB (tgt := 80) hC dX4_canSplit_75 (by decide) (fun hc8 => ?_) (fun hc8 => ?_)
      · replace h := mj_nn hc8 h
        refine mx_aload_n (j := 4) hC dX4_canSplit_80 rfl rfl ?_
        obtain ⟨ht9, h⟩ := h
        refine mx_get (v := vR (mj_r M4 l3 1)) hC tf_X4_44 ht9 rfl dX4_canSplit_81 ?_
        refine mx_astore_n (L' := [(3, vR (mj_r M4 l3 1)), (4, vI (mj_b s0)), (0, vR l0), (1, vR l1), (2, vI l2)]) hC dX4_canSplit_84 rfl (by decide) rfl ?_
        refine mx_goto (tgt := 23) hC dX4_canSplit_85 (by decide) ?_
        refine mx_sub (L' := [(0, vR l0), (1, vR l1), (2, vI l2), (3, vR (mj_r M4 l3 1))]) [2, 3, 4, 0] rfl ?_
        exact show mj_X g 23 [(0, vR l0), (1, vR l1), (2, vI l2), (3, vR (mj_r M4 l3 1))] [] M4 0 0 from (hk23 l0 l1 l2 (mj_r M4 l3 1) M4 h)
      · replace h := mj_yy hc8 h
        refine mx_iconst (v := 0) hC dX4_canSplit_78 (by decide) ?_
        exact mx_zret (b := false) hC hE rfl dX4_canSplit_79 h
set_option maxHeartbeats 4000000 in
set_option maxRecDepth 100000 in
theorem xb_X4_canSplit_51 {g : mj_G} {post : Bool → mj_M → Prop} (hC : mj_C g yX4_canSplit cX4_canSplit 5 (some .boolean) rm_X4_canSplit) (hE : mj_E g mj_jB post 0 0) {k23 : Nat → Nat → Int32 → Nat → mj_M → Prop} (hk23 : ∀ (l0 : Nat) (l1 : Nat) (l2 : Int32) (l3 : Nat) (M : mj_M), k23 l0 l1 l2 l3 M → mj_X g 23 [(0, vR l0), (1, vR l1), (2, vI l2), (3, vR l3)] [] M 0 0) (l0 : Nat) (l1 : Nat) (l2 : Int32) (l3 : Nat) (M : mj_M) (h : vb_X4_canSplit_51 k23 post l0 l1 l2 l3 M) : mj_X g 51 [(0, vR l0), (1, vR l1), (2, vI l2), (3, vR l3)] [] M 0 0 := by
  simp only [vb_X4_canSplit_51] at h
  refine mx_iconst (v := 0) hC dX4_canSplit_51 (by decide) ?_
  refine mx_sub (L' := [(0, vR l0), (1, vR l1), (2, vI l2), (3, vR l3)]) [0, 1, 2, 3] rfl ?_
  exact show mj_X g 52 [(0, vR l0), (1, vR l1), (2, vI l2), (3, vR l3)] [vI (mj_b false)] M 0 0 from (xb_X4_canSplit_52 hC hE hk23 l0 l1 l2 l3 false M h)
set_option maxHeartbeats 4000000 in
set_option maxRecDepth 100000 in
theorem xb_X4_canSplit_23 {g : mj_G} {post : Bool → mj_M → Prop} (hC : mj_C g yX4_canSplit cX4_canSplit 5 (some .boolean) rm_X4_canSplit) (hE : mj_E g mj_jB post 0 0) : ∀ (f : Nat) (l0 : Nat) (l1 : Nat) (l2 : Int32) (l3 : Nat) (M : mj_M), vb_X4_canSplit_23 post f l0 l1 l2 l3 M → mj_X g 23 [(0, vR l0), (1, vR l1), (2, vI l2), (3, vR l3)] [] M 0 0 := by
  intro f
  induction f with
  | zero => exact fun _ _ _ _ _ h => absurd h (fun z => z)
  | succ f ih =>
    intro l0 l1 l2 l3 M h
    simp only [vb_X4_canSplit_23] at h
    refine mx_aload_n (j := 3) hC dX4_canSplit_23 rfl rfl ?_
    refine mx_ifnull (tgt := 88) hC dX4_canSplit_24 (by decide) (fun hc10 => ?_) (fun hc10 => ?_)
    · replace h := mj_yy hc10 h
      refine mx_iconst (v := 1) hC dX4_canSplit_88 (by decide) ?_
      exact mx_zret (b := true) hC hE rfl dX4_canSplit_89 h
    · replace h := mj_nn hc10 h
      refine mx_aload_n (j := 3) hC dX4_canSplit_27 rfl rfl ?_
      obtain ⟨ht11, h⟩ := h
      refine mx_get (v := vI (mj_i M l3 3)) hC tf_X4_57 ht11 rfl dX4_canSplit_28 ?_
      refine mx_iload_n (j := 2) hC dX4_canSplit_31 rfl rfl ?_
      refine mx_iand hC dX4_canSplit_32 ?_
      refine mx_ifeq (tgt := 51) hC dX4_canSplit_33 (by decide) (fun hc12 => ?_) (fun hc12 => ?_)
      · replace h := mj_yy hc12 h
        refine mx_sub (L' := [(0, vR l0), (1, vR l1), (2, vI l2), (3, vR l3)]) [0, 1, 2, 3] rfl ?_
        exact show mj_X g 51 [(0, vR l0), (1, vR l1), (2, vI l2), (3, vR l3)] [] M 0 0 from (xb_X4_canSplit_51 hC hE ih l0 l1 l2 l3 M h)
      · replace h := mj_nn hc12 h
        refine mx_aload_n (j := 3) hC dX4_canSplit_36 rfl rfl ?_
        refine mx_get (v := vI (mj_i M l3 3)) hC tf_X4_57 ht11 rfl dX4_canSplit_37 ?_
        refine mx_iload_n (j := 2) hC dX4_canSplit_40 rfl rfl ?_
        refine mx_iconst (v := (-1)) hC dX4_canSplit_41 (by decide) ?_
        refine mx_ixor hC dX4_canSplit_42 ?_
        refine mx_iand hC dX4_canSplit_43 ?_
        refine mx_ifeq (tgt := 51) hC dX4_canSplit_44 (by decide) (fun hc13 => ?_) (fun hc13 => ?_)
        · replace h := mj_yy hc13 h
          refine mx_sub (L' := [(0, vR l0), (1, vR l1), (2, vI l2), (3, vR l3)]) [0, 1, 2, 3] rfl ?_
          exact show mj_X g 51 [(0, vR l0), (1, vR l1), (2, vI l2), (3, vR l3)] [] M 0 0 from (xb_X4_canSplit_51 hC hE ih l0 l1 l2 l3 M h)
        · replace h := mj_nn hc13 h
          refine mx_iconst (v := 1) hC dX4_canSplit_47 (by decide) ?_
          refine mx_goto (tgt := 52) hC dX4_canSplit_48 (by decide) ?_
          refine mx_sub (L' := [(0, vR l0), (1, vR l1), (2, vI l2), (3, vR l3)]) [0, 1, 2, 3] rfl ?_
          exact show mj_X g 52 [(0, vR l0), (1, vR l1), (2, vI l2), (3, vR l3)] [vI (mj_b true)] M 0 0 from (xb_X4_canSplit_52 hC hE ih l0 l1 l2 l3 true M h)
set_option maxHeartbeats 4000000 in
set_option maxRecDepth 100000 in
theorem ct_X4_canSplit {l : Launch} {base : Nat} {D : va_G} {A : ClassId × ClassId × ClassId} (l0 : Nat) (l1 : Nat) (l2 : Int32) (M : mj_M) (post : Bool → mj_M → Prop) (h : vc_X4_canSplit l0 l1 l2 M post) : mj_Met l base D A mj_jB yX4_canSplit cX4_canSplit 5 (some .boolean) rm_X4_canSplit 0 0 [vR l0, vR l1, vI l2] M post := by
  refine mj_entry (by decide +kernel) (Nat.le_of_ble_eq_true rfl) (fun g hC hE h1 h2 h3 h4 => ?_)
  show mj_X g 0 [(0, vR l0), (1, vR l1), (2, vI l2)] [] M 0 0
  simp only [vc_X4_canSplit] at h
  refine mx_aload_n (j := 1) hC dX4_canSplit_0 rfl rfl ?_
  refine mx_iload_n (j := 2) hC dX4_canSplit_1 rfl rfl ?_
  obtain ⟨ht14, h⟩ := h
  refine mx_callV (inj := mj_jB) (As := [vI l2]) (st := []) hC (ct_X3_hasFloors l1 l2 M _ h) ty_X3_hasFloors tw479 ht14 rfl (Nat.le_of_ble_eq_true rfl) ⟨rfl, rfl, ⟨by decide, by decide⟩, by decide, by decide⟩ dX4_canSplit_2 (fun r15 M16 h => ?_)
  show mj_X g 5 [(0, vR l0), (1, vR l1), (2, vI l2)] [vI (mj_b r15)] M16 0 0
  refine mx_ifeqB (tgt := 16) hC dX4_canSplit_5 (by decide) (fun hc17 => ?_) (fun hc17 => ?_)
  · replace h := mj_nn hc17 h
    refine mx_iconst (v := 0) hC dX4_canSplit_16 (by decide) ?_
    exact mx_zret (b := false) hC hE rfl dX4_canSplit_17 h
  · replace h := mj_yy hc17 h
    refine mx_iload_n (j := 2) hC dX4_canSplit_8 rfl rfl ?_
    refine mx_aload_n (j := 1) hC dX4_canSplit_9 rfl rfl ?_
    obtain ⟨ht18, h⟩ := h
    refine mx_get (v := vI (mj_i M16 l1 3)) hC tf_X4_57 ht18 rfl dX4_canSplit_10 ?_
    refine mx_icmpne (tgt := 18) hC dX4_canSplit_13 (by decide) (fun hc19 => ?_) (fun hc19 => ?_)
    · replace h := mj_nn hc19 h
      refine mx_aload_n (j := 0) hC dX4_canSplit_18 rfl rfl ?_
      obtain ⟨ht20, h⟩ := h
      refine mx_get (v := vR (mj_r M16 l0 1)) hC tf_X4_37 ht20 rfl dX4_canSplit_19 ?_
      refine mx_astore_n (L' := [(3, vR (mj_r M16 l0 1)), (0, vR l0), (1, vR l1), (2, vI l2)]) hC dX4_canSplit_22 rfl (by decide) rfl ?_
      refine mx_sub (L' := [(0, vR l0), (1, vR l1), (2, vI l2), (3, vR (mj_r M16 l0 1))]) [1, 2, 3, 0] rfl ?_
      obtain ⟨fe, h⟩ := h
      exact show mj_X g 23 [(0, vR l0), (1, vR l1), (2, vI l2), (3, vR (mj_r M16 l0 1))] [] M16 0 0 from (xb_X4_canSplit_23 hC hE fe l0 l1 l2 (mj_r M16 l0 1) M16 h)
    · replace h := mj_yy hc19 h
      refine mx_iconst (v := 0) hC dX4_canSplit_16 (by decide) ?_
      exact mx_zret (b := false) hC hE rfl dX4_canSplit_17 h

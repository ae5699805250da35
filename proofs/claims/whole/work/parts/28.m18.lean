/-! methods 18. By program (wip/gen) out of the bytecode: vc_KEY: what must hold of a call; ct_KEY: then the machine does it. -/
def rm_X12_hasAll : Room := { frames := 0, cells := 0, slots := 0, locals := 0 }
theorem dX12_hasAll_0 : decode cX12_hasAll 0 = .ok (.iconst 1, 1) := by decide +kernel
theorem dX12_hasAll_1 : decode cX12_hasAll 1 = .ok (.istore_n 2, 1) := by decide +kernel
theorem dX12_hasAll_2 : decode cX12_hasAll 2 = .ok (.aload_n 0, 1) := by decide +kernel
theorem dX12_hasAll_3 : decode cX12_hasAll 3 = .ok (.getfield 7, 3) := by decide +kernel
theorem dX12_hasAll_6 : decode cX12_hasAll 6 = .ok (.iload_n 1, 1) := by decide +kernel
theorem dX12_hasAll_7 : decode cX12_hasAll 7 = .ok (.iaload, 1) := by decide +kernel
theorem dX12_hasAll_8 : decode cX12_hasAll 8 = .ok (.istore_n 3, 1) := by decide +kernel
theorem dX12_hasAll_9 : decode cX12_hasAll 9 = .ok (.iload_n 3, 1) := by decide +kernel
theorem dX12_hasAll_10 : decode cX12_hasAll 10 = .ok (.ifCond .lt 38, 3) := by decide +kernel
theorem dX12_hasAll_13 : decode cX12_hasAll 13 = .ok (.iload_n 2, 1) := by decide +kernel
theorem dX12_hasAll_14 : decode cX12_hasAll 14 = .ok (.ifCond .eq 22, 3) := by decide +kernel
theorem dX12_hasAll_17 : decode cX12_hasAll 17 = .ok (.aload_n 0, 1) := by decide +kernel
theorem dX12_hasAll_18 : decode cX12_hasAll 18 = .ok (.getfield 13, 3) := by decide +kernel
theorem dX12_hasAll_21 : decode cX12_hasAll 21 = .ok (.iload_n 3, 1) := by decide +kernel
theorem dX12_hasAll_22 : decode cX12_hasAll 22 = .ok (.iaload, 1) := by decide +kernel
theorem dX12_hasAll_23 : decode cX12_hasAll 23 = .ok (.aload_n 0, 1) := by decide +kernel
theorem dX12_hasAll_24 : decode cX12_hasAll 24 = .ok (.getfield 13, 3) := by decide +kernel
theorem dX12_hasAll_27 : decode cX12_hasAll 27 = .ok (.iload_n 1, 1) := by decide +kernel
theorem dX12_hasAll_28 : decode cX12_hasAll 28 = .ok (.iaload, 1) := by decide +kernel
theorem dX12_hasAll_29 : decode cX12_hasAll 29 = .ok (.if_icmp .ne 7, 3) := by decide +kernel
theorem dX12_hasAll_32 : decode cX12_hasAll 32 = .ok (.iconst 1, 1) := by decide +kernel
theorem dX12_hasAll_33 : decode cX12_hasAll 33 = .ok (.goto 4, 3) := by decide +kernel
theorem dX12_hasAll_36 : decode cX12_hasAll 36 = .ok (.iconst 0, 1) := by decide +kernel
theorem dX12_hasAll_37 : decode cX12_hasAll 37 = .ok (.istore_n 2, 1) := by decide +kernel
theorem dX12_hasAll_38 : decode cX12_hasAll 38 = .ok (.aload_n 0, 1) := by decide +kernel
theorem dX12_hasAll_39 : decode cX12_hasAll 39 = .ok (.getfield 7, 3) := by decide +kernel
theorem dX12_hasAll_42 : decode cX12_hasAll 42 = .ok (.iload_n 3, 1) := by decide +kernel
theorem dX12_hasAll_43 : decode cX12_hasAll 43 = .ok (.iaload, 1) := by decide +kernel
theorem dX12_hasAll_44 : decode cX12_hasAll 44 = .ok (.istore_n 3, 1) := by decide +kernel
theorem dX12_hasAll_45 : decode cX12_hasAll 45 = .ok (.goto (-36), 3) := by decide +kernel
theorem dX12_hasAll_48 : decode cX12_hasAll 48 = .ok (.iload_n 2, 1) := by decide +kernel
theorem dX12_hasAll_49 : decode cX12_hasAll 49 = .ok (.ireturn, 1) := by decide +kernel
def vb_X12_hasAll_37 (k9 : Nat → Int32 → Bool → Int32 → mj_M → Prop) (post : Bool → mj_M → Prop) (l0 : Nat) (l1 : Int32) (l3 : Int32) (s0 : Bool) (M : mj_M) : Prop := mj_tag M l0 = 13 ∧ mj_tag M (mj_r M l0 1) = 101 ∧ vp_in l3 (mj_len M (mj_r M l0 1)) ∧ k9 l0 l1 s0 (mj_i M (mj_r M l0 1) (l3 : Int32).toNatClampNeg) M
def vb_X12_hasAll_36 (k9 : Nat → Int32 → Bool → Int32 → mj_M → Prop) (post : Bool → mj_M → Prop) (l0 : Nat) (l1 : Int32) (l3 : Int32) (M : mj_M) : Prop := vb_X12_hasAll_37 k9 post l0 l1 l3 false M
def vb_X12_hasAll_9 (post : Bool → mj_M → Prop) : Nat → Nat → Int32 → Bool → Int32 → mj_M → Prop
  | 0 => fun _ _ _ _ _ => False
  | f + 1 => fun l0 l1 l2 l3 M => if l3 < 0 then (post l2 M) else (if l2 = true then (mj_tag M l0 = 13 ∧ mj_tag M (mj_r M l0 2) = 101 ∧ vp_in l3 (mj_len M (mj_r M l0 2)) ∧ vp_in l1 (mj_len M (mj_r M l0 2)) ∧ if (mj_i M (mj_r M l0 2) (l3 : Int32).toNatClampNeg) = (mj_i M (mj_r M l0 2) (l1 : Int32).toNatClampNeg) then (vb_X12_hasAll_37 (vb_X12_hasAll_9 post f) post l0 l1 l3 true M) else (vb_X12_hasAll_36 (vb_X12_hasAll_9 post f) post l0 l1 l3 M)) else (vb_X12_hasAll_36 (vb_X12_hasAll_9 post f) post l0 l1 l3 M))
def vc_X12_hasAll (l0 : Nat) (l1 : Int32) (M : mj_M) (post : Bool → mj_M → Prop) : Prop := mj_tag M l0 = 13 ∧ mj_tag M (mj_r M l0 1) = 101 ∧ vp_in l1 (mj_len M (mj_r M l0 1)) ∧ ∃ fe, vb_X12_hasAll_9 post fe l0 l1 true (mj_i M (mj_r M l0 1) (l1 : Int32).toNatClampNeg) M
set_option maxHeartbeats 4000000 in
set_option maxRecDepth 100000 in
theorem xb_X12_hasAll_37 {g : mj_G} {post : Bool → mj_M → Prop} (hC : mj_C g yX12_hasAll cX12_hasAll 4 (some .boolean) rm_X12_hasAll) (hE : mj_E g mj_jB post 0 0) {k9 : Nat → Int32 → Bool → Int32 → mj_M → Prop} (hk9 : ∀ (l0 : Nat) (l1 : Int32) (l2 : Bool) (l3 : Int32) (M : mj_M), k9 l0 l1 l2 l3 M → mj_X g 9 [(0, vR l0), (1, vI l1), (2, vI (mj_b l2)), (3, vI l3)] [] M 0 0) (l0 : Nat) (l1 : Int32) (l3 : Int32) (s0 : Bool) (M : mj_M) (h : vb_X12_hasAll_37 k9 post l0 l1 l3 s0 M) : mj_X g 37 [(0, vR l0), (1, vI l1), (3, vI l3)] [vI (mj_b s0)] M 0 0 := by
  simp only [vb_X12_hasAll_37] at h
  refine mx_istore_n (L' := [(2, vI (mj_b s0)), (0, vR l0), (1, vI l1), (3, vI l3)]) hC dX12_hasAll_37 rfl (by decide) rfl ?_
  refine mx_aload_n (j := 1) hC dX12_hasAll_38 rfl rfl ?_
  obtain ⟨ht1, h⟩ := h
  refine mx_get (v := vR (mj_r M l0 1)) hC tf_X12_7 ht1 rfl dX12_hasAll_39 ?_
  refine mx_iload_n (j := 3) hC dX12_hasAll_42 rfl rfl ?_
  obtain ⟨ht2, h⟩ := h
  obtain ⟨hi3, h⟩ := h
  refine mx_iaload hC ht2 hi3 dX12_hasAll_43 ?_
  refine mx_istore_n (L' := [(3, vI (mj_i M (mj_r M l0 1) (l3 : Int32).toNatClampNeg)), (2, vI (mj_b s0)), (0, vR l0), (1, vI l1)]) hC dX12_hasAll_44 rfl (by decide) rfl ?_
  refine mx_goto (tgt := 9) hC dX12_hasAll_45 (by decide) ?_
  refine mx_sub (L' := [(0, vR l0), (1, vI l1), (2, vI (mj_b s0)), (3, vI (mj_i M (mj_r M l0 1) (l3 : Int32).toNatClampNeg))]) [2, 3, 1, 0] rfl ?_
  exact show mj_X g 9 [(0, vR l0), (1, vI l1), (2, vI (mj_b s0)), (3, vI (mj_i M (mj_r M l0 1) (l3 : Int32).toNatClampNeg))] [] M 0 0 from (hk9 l0 l1 s0 (mj_i M (mj_r M l0 1) (l3 : Int32).toNatClampNeg) M h)
set_option maxHeartbeats 4000000 in
set_option maxRecDepth 100000 in
theorem xb_X12_hasAll_36 {g : mj_G} {post : Bool → mj_M → Prop} (hC : mj_C g yX12_hasAll cX12_hasAll 4 (some .boolean) rm_X12_hasAll) (hE : mj_E g mj_jB post 0 0) {k9 : Nat → Int32 → Bool → Int32 → mj_M → Prop} (hk9 : ∀ (l0 : Nat) (l1 : Int32) (l2 : Bool) (l3 : Int32) (M : mj_M), k9 l0 l1 l2 l3 M → mj_X g 9 [(0, vR l0), (1, vI l1), (2, vI (mj_b l2)), (3, vI l3)] [] M 0 0) (l0 : Nat) (l1 : Int32) (l3 : Int32) (M : mj_M) (h : vb_X12_hasAll_36 k9 post l0 l1 l3 M) : mj_X g 36 [(0, vR l0), (1, vI l1), (3, vI l3)] [] M 0 0 := by
  simp only [vb_X12_hasAll_36] at h
  refine mx_iconst (v := 0) hC dX12_hasAll_36 (by decide) ?_
  refine mx_sub (L' := [(0, vR l0), (1, vI l1), (3, vI l3)]) [0, 1, 2] rfl ?_
  exact show mj_X g 37 [(0, vR l0), (1, vI l1), (3, vI l3)] [vI (mj_b false)] M 0 0 from (xb_X12_hasAll_37 hC hE hk9 l0 l1 l3 false M h)
set_option maxHeartbeats 4000000 in
set_option maxRecDepth 100000 in
theorem xb_X12_hasAll_9 {g : mj_G} {post : Bool → mj_M → Prop} (hC : mj_C g yX12_hasAll cX12_hasAll 4 (some .boolean) rm_X12_hasAll) (hE : mj_E g mj_jB post 0 0) : ∀ (f : Nat) (l0 : Nat) (l1 : Int32) (l2 : Bool) (l3 : Int32) (M : mj_M), vb_X12_hasAll_9 post f l0 l1 l2 l3 M → mj_X g 9 [(0, vR l0), (1, vI l1), (2, vI (mj_b l2)), (3, vI l3)] [] M 0 0 := by
  intro f
  induction f with
  | zero => exact fun _ _ _ _ _ h => absurd h (fun z => z)
  | succ f ih =>
    intro l0 l1 l2 l3 M h
    simp only [vb_X12_hasAll_9] at h
    refine mx_iload_n (j := 3) hC dX12_hasAll_9 rfl rfl ?_
    refine mx_iflt (tgt := 48) hC dX12_hasAll_10 (by decide) (fun hc4 => ?_) (fun hc4 => ?_)
    · replace h := mj_yy hc4 h
      refine mx_iload_n (j := 2) hC dX12_hasAll_48 rfl rfl ?_
      exact mx_zret (b := l2) hC hE rfl dX12_hasAll_49 h
    · replace h := mj_nn hc4 h
      refine mx_iload_n (j := 2) hC dX12_hasAll_13 rfl rfl ?_
      refine mx_ifeqB (tgt := 36) hC dX12_hasAll_14 (by decide) (fun hc5 => ?_) (fun hc5 => ?_)
      · replace h := mj_nn hc5 h
        refine mx_sub (L' := [(0, vR l0), (1, vI l1), (3, vI l3)]) [0, 1, 3] rfl ?_
        exact show mj_X g 36 [(0, vR l0), (1, vI l1), (3, vI l3)] [] M 0 0 from (xb_X12_hasAll_36 hC hE ih l0 l1 l3 M h)
      · replace h := mj_yy hc5 h
        refine mx_aload_n (j := 0) hC dX12_hasAll_17 rfl rfl ?_
        obtain ⟨ht6, h⟩ := h
        refine mx_get (v := vR (mj_r M l0 2)) hC tf_X12_13 ht6 rfl dX12_hasAll_18 ?_
        refine mx_iload_n (j := 3) hC dX12_hasAll_21 rfl rfl ?_
        obtain ⟨ht7, h⟩ := h
        obtain ⟨hi8, h⟩ := h
        refine mx_iaload hC ht7 hi8 dX12_hasAll_22 ?_
        refine mx_aload_n (j := 0) hC dX12_hasAll_23 rfl rfl ?_
        refine mx_get (v := vR (mj_r M l0 2)) hC tf_X12_13 ht6 rfl dX12_hasAll_24 ?_
        refine mx_iload_n (j := 1) hC dX12_hasAll_27 rfl rfl ?_
        obtain ⟨hi9, h⟩ := h
        refine mx_iaload hC ht7 hi9 dX12_hasAll_28 ?_
        refine mx_icmpne (tgt := 36) hC dX12_hasAll_29 (by decide) (fun hc10 => ?_) (fun hc10 => ?_)
        · replace h := mj_nn hc10 h
          refine mx_sub (L' := [(0, vR l0), (1, vI l1), (3, vI l3)]) [0, 1, 3] rfl ?_
          exact show mj_X g 36 [(0, vR l0), (1, vI l1), (3, vI l3)] [] M 0 0 from (xb_X12_hasAll_36 hC hE ih l0 l1 l3 M h)
        · replace h := mj_yy hc10 h
          refine mx_iconst (v := 1) hC dX12_hasAll_32 (by decide) ?_
          refine mx_goto (tgt := 37) hC dX12_hasAll_33 (by decide) ?_
          refine mx_sub (L' := [(0, vR l0), (1, vI l1), (3, vI l3)]) [0, 1, 3] rfl ?_
          exact show mj_X g 37 [(0, vR l0), (1, vI l1), (3, vI l3)] [vI (mj_b true)] M 0 0 from (xb_X12_hasAll_37 hC hE ih l0 l1 l3 true M h)
set_option maxHeartbeats 4000000 in
set_option maxRecDepth 100000 in
theorem ct_X12_hasAll {l : Launch} {base : Nat} {D : va_G} {A : ClassId × ClassId × ClassId} (l0 : Nat) (l1 : Int32) (M : mj_M) (post : Bool → mj_M → Prop) (h : vc_X12_hasAll l0 l1 M post) : mj_Met l base D A mj_jB yX12_hasAll cX12_hasAll 4 (some .boolean) rm_X12_hasAll 0 0 [vR l0, vI l1] M post := by
  refine mj_entry (by decide +kernel) (Nat.le_of_ble_eq_true rfl) (fun g hC hE h1 h2 h3 h4 => ?_)
  show mj_X g 0 [(0, vR l0), (1, vI l1)] [] M 0 0
  simp only [vc_X12_hasAll] at h
  refine mx_iconst (v := 1) hC dX12_hasAll_0 (by decide) ?_
  refine mx_istore_n (L' := [(2, vI 1), (0, vR l0), (1, vI l1)]) hC dX12_hasAll_1 rfl (by decide) rfl ?_
  refine mx_aload_n (j := 1) hC dX12_hasAll_2 rfl rfl ?_
  obtain ⟨ht11, h⟩ := h
  refine mx_get (v := vR (mj_r M l0 1)) hC tf_X12_7 ht11 rfl dX12_hasAll_3 ?_
  refine mx_iload_n (j := 2) hC dX12_hasAll_6 rfl rfl ?_
  obtain ⟨ht12, h⟩ := h
  obtain ⟨hi13, h⟩ := h
  refine mx_iaload hC ht12 hi13 dX12_hasAll_7 ?_
  refine mx_istore_n (L' := [(3, vI (mj_i M (mj_r M l0 1) (l1 : Int32).toNatClampNeg)), (2, vI 1), (0, vR l0), (1, vI l1)]) hC dX12_hasAll_8 rfl (by decide) rfl ?_
  refine mx_sub (L' := [(0, vR l0), (1, vI l1), (2, vI (mj_b true)), (3, vI (mj_i M (mj_r M l0 1) (l1 : Int32).toNatClampNeg))]) [2, 3, 1, 0] rfl ?_
  obtain ⟨fe, h⟩ := h
  exact show mj_X g 9 [(0, vR l0), (1, vI l1), (2, vI (mj_b true)), (3, vI (mj_i M (mj_r M l0 1) (l1 : Int32).toNatClampNeg))] [] M 0 0 from (xb_X12_hasAll_9 hC hE fe l0 l1 true (mj_i M (mj_r M l0 1) (l1 : Int32).toNatClampNeg) M h)
def rm_X12_wholeOf : Room := { frames := 0, cells := 0, slots := 0, locals := 0 }
theorem dX12_wholeOf_0 : decode cX12_wholeOf 0 = .ok (.iload_n 1, 1) := by decide +kernel
theorem dX12_wholeOf_1 : decode cX12_wholeOf 1 = .ok (.istore_n 2, 1) := by decide +kernel
theorem dX12_wholeOf_2 : decode cX12_wholeOf 2 = .ok (.aload_n 0, 1) := by decide +kernel
theorem dX12_wholeOf_3 : decode cX12_wholeOf 3 = .ok (.getfield 7, 3) := by decide +kernel
theorem dX12_wholeOf_6 : decode cX12_wholeOf 6 = .ok (.iload_n 2, 1) := by decide +kernel
theorem dX12_wholeOf_7 : decode cX12_wholeOf 7 = .ok (.iaload, 1) := by decide +kernel
theorem dX12_wholeOf_8 : decode cX12_wholeOf 8 = .ok (.ifCond .lt 13, 3) := by decide +kernel
theorem dX12_wholeOf_11 : decode cX12_wholeOf 11 = .ok (.aload_n 0, 1) := by decide +kernel
theorem dX12_wholeOf_12 : decode cX12_wholeOf 12 = .ok (.getfield 7, 3) := by decide +kernel
theorem dX12_wholeOf_15 : decode cX12_wholeOf 15 = .ok (.iload_n 2, 1) := by decide +kernel
theorem dX12_wholeOf_16 : decode cX12_wholeOf 16 = .ok (.iaload, 1) := by decide +kernel
theorem dX12_wholeOf_17 : decode cX12_wholeOf 17 = .ok (.istore_n 2, 1) := by decide +kernel
theorem dX12_wholeOf_18 : decode cX12_wholeOf 18 = .ok (.goto (-16), 3) := by decide +kernel
theorem dX12_wholeOf_21 : decode cX12_wholeOf 21 = .ok (.iload_n 2, 1) := by decide +kernel
theorem dX12_wholeOf_22 : decode cX12_wholeOf 22 = .ok (.ireturn, 1) := by decide +kernel
def vb_X12_wholeOf_2 (post : Int32 → mj_M → Prop) : Nat → Nat → Int32 → mj_M → Prop
  | 0 => fun _ _ _ => False
  | f + 1 => fun l0 l2 M => mj_tag M l0 = 13 ∧ mj_tag M (mj_r M l0 1) = 101 ∧ vp_in l2 (mj_len M (mj_r M l0 1)) ∧ if (mj_i M (mj_r M l0 1) (l2 : Int32).toNatClampNeg) < 0 then (post l2 M) else (vb_X12_wholeOf_2 post f l0 (mj_i M (mj_r M l0 1) (l2 : Int32).toNatClampNeg) M)
def vc_X12_wholeOf (l0 : Nat) (l1 : Int32) (M : mj_M) (post : Int32 → mj_M → Prop) : Prop := ∃ fe, vb_X12_wholeOf_2 post fe l0 l1 M
set_option maxHeartbeats 4000000 in
set_option maxRecDepth 100000 in
theorem xb_X12_wholeOf_2 {g : mj_G} {post : Int32 → mj_M → Prop} (hC : mj_C g yX12_wholeOf cX12_wholeOf 3 (some .int) rm_X12_wholeOf) (hE : mj_E g mj_jI post 0 0) : ∀ (f : Nat) (l0 : Nat) (l2 : Int32) (M : mj_M), vb_X12_wholeOf_2 post f l0 l2 M → mj_X g 2 [(0, vR l0), (2, vI l2)] [] M 0 0 := by
  intro f
  induction f with
  | zero => exact fun _ _ _ h => absurd h (fun z => z)
  | succ f ih =>
    intro l0 l2 M h
    simp only [vb_X12_wholeOf_2] at h
    refine mx_aload_n (j := 0) hC dX12_wholeOf_2 rfl rfl ?_
    obtain ⟨ht1, h⟩ := h
    refine mx_get (v := vR (mj_r M l0 1)) hC tf_X12_7 ht1 rfl dX12_wholeOf_3 ?_
    refine mx_iload_n (j := 1) hC dX12_wholeOf_6 rfl rfl ?_
    obtain ⟨ht2, h⟩ := h
    obtain ⟨hi3, h⟩ := h
    refine mx_iaload hC ht2 hi3 dX12_wholeOf_7 ?_
    refine mx_iflt (tgt := 21) hC dX12_wholeOf_8 (by decide) (fun hc4 => ?_) (fun hc4 => ?_)
    · replace h := mj_yy hc4 h
      refine mx_iload_n (j := 1) hC dX12_wholeOf_21 rfl rfl ?_
      exact mx_iret hC hE rfl dX12_wholeOf_22 h
    · replace h := mj_nn hc4 h
      refine mx_aload_n (j := 0) hC dX12_wholeOf_11 rfl rfl ?_
      refine mx_get (v := vR (mj_r M l0 1)) hC tf_X12_7 ht1 rfl dX12_wholeOf_12 ?_
      refine mx_iload_n (j := 1) hC dX12_wholeOf_15 rfl rfl ?_
      refine mx_iaload hC ht2 hi3 dX12_wholeOf_16 ?_
      refine mx_istore_n (L' := [(2, vI (mj_i M (mj_r M l0 1) (l2 : Int32).toNatClampNeg)), (0, vR l0)]) hC dX12_wholeOf_17 rfl (by decide) rfl ?_
      refine mx_goto (tgt := 2) hC dX12_wholeOf_18 (by decide) ?_
      refine mx_sub (L' := [(0, vR l0), (2, vI (mj_i M (mj_r M l0 1) (l2 : Int32).toNatClampNeg))]) [1, 0] rfl ?_
      exact show mj_X g 2 [(0, vR l0), (2, vI (mj_i M (mj_r M l0 1) (l2 : Int32).toNatClampNeg))] [] M 0 0 from (ih l0 (mj_i M (mj_r M l0 1) (l2 : Int32).toNatClampNeg) M h)
set_option maxHeartbeats 4000000 in
set_option maxRecDepth 100000 in
theorem ct_X12_wholeOf {l : Launch} {base : Nat} {D : va_G} {A : ClassId × ClassId × ClassId} (l0 : Nat) (l1 : Int32) (M : mj_M) (post : Int32 → mj_M → Prop) (h : vc_X12_wholeOf l0 l1 M post) : mj_Met l base D A mj_jI yX12_wholeOf cX12_wholeOf 3 (some .int) rm_X12_wholeOf 0 0 [vR l0, vI l1] M post := by
  refine mj_entry (by decide +kernel) (Nat.le_of_ble_eq_true rfl) (fun g hC hE h1 h2 h3 h4 => ?_)
  show mj_X g 0 [(0, vR l0), (1, vI l1)] [] M 0 0
  simp only [vc_X12_wholeOf] at h
  refine mx_iload_n (j := 1) hC dX12_wholeOf_0 rfl rfl ?_
  refine mx_istore_n (L' := [(2, vI l1), (0, vR l0), (1, vI l1)]) hC dX12_wholeOf_1 rfl (by decide) rfl ?_
  refine mx_sub (L' := [(0, vR l0), (2, vI l1)]) [1, 0] rfl ?_
  obtain ⟨fe, h⟩ := h
  exact show mj_X g 2 [(0, vR l0), (2, vI l1)] [] M 0 0 from (xb_X12_wholeOf_2 hC hE fe l0 l1 M h)
theorem tw1661 : (Jvm.Cond.methodLink "LeaseLandModel" (313 : Nat) ({ cls := "LeaseLandModel", name := "wholeOf", desc := "(I)I" } : Jvm.MethodName)) ∈ mj_tbl := mj_w 1714 (by decide +kernel) (by decide +kernel)
theorem tw1665 : (Jvm.Cond.methodLink "LeaseLandModel" (316 : Nat) ({ cls := "LeaseLandModel", name := "fallAll", desc := "(II)I" } : Jvm.MethodName)) ∈ mj_tbl := mj_w 1718 (by decide +kernel) (by decide +kernel)
theorem tw1668 : (Jvm.Cond.code ({ cls := "LeaseLandModel", name := "fallAll", desc := "(II)I" } : Jvm.MethodName) prog_14_method_73_code (4 : Nat) (Option.some Jvm.ClassFile.FieldType.int)) ∈ mj_tbl := mj_w 1721 (by decide +kernel) (by decide +kernel)
theorem tw1667 : (Jvm.Cond.instanceMethod ({ cls := "LeaseLandModel", name := "fallAll", desc := "(II)I" } : Jvm.MethodName)) ∈ mj_tbl := mj_w 1720 (by decide +kernel) (by decide +kernel)
theorem ty_X12_fallAll : mj_YV 12 yX12_fallAll cX12_fallAll 4 (some .int) 2 := ⟨⟨tw1668, tw11, by decide +kernel, by decide +kernel, by decide +kernel⟩, tw1667, mj_w 37 (by decide +kernel) (by decide +kernel), _, rfl, rfl⟩
theorem tw1664 : (Jvm.Cond.code ({ cls := "LeaseLandModel", name := "wholeOf", desc := "(I)I" } : Jvm.MethodName) prog_14_method_75_code (3 : Nat) (Option.some Jvm.ClassFile.FieldType.int)) ∈ mj_tbl := mj_w 1717 (by decide +kernel) (by decide +kernel)
theorem tw1663 : (Jvm.Cond.instanceMethod ({ cls := "LeaseLandModel", name := "wholeOf", desc := "(I)I" } : Jvm.MethodName)) ∈ mj_tbl := mj_w 1716 (by decide +kernel) (by decide +kernel)
theorem ty_X12_wholeOf : mj_YV 12 yX12_wholeOf cX12_wholeOf 3 (some .int) 1 := ⟨⟨tw1664, tw11, by decide +kernel, by decide +kernel, by decide +kernel⟩, tw1663, mj_w 36 (by decide +kernel) (by decide +kernel), _, rfl, rfl⟩
def rm_X12_buy : Room := { frames := 3, cells := 0, slots := 0, locals := 70 }
theorem dX12_buy_0 : decode cX12_buy 0 = .ok (.aload_n 0, 1) := by decide +kernel
theorem dX12_buy_1 : decode cX12_buy 1 = .ok (.iload_n 1, 1) := by decide +kernel
theorem dX12_buy_2 : decode cX12_buy 2 = .ok (.invokevirtual 313, 3) := by decide +kernel
theorem dX12_buy_5 : decode cX12_buy 5 = .ok (.istore_n 2, 1) := by decide +kernel
theorem dX12_buy_6 : decode cX12_buy 6 = .ok (.aload_n 0, 1) := by decide +kernel
theorem dX12_buy_7 : decode cX12_buy 7 = .ok (.iload_n 1, 1) := by decide +kernel
theorem dX12_buy_8 : decode cX12_buy 8 = .ok (.iconst 3, 1) := by decide +kernel
theorem dX12_buy_9 : decode cX12_buy 9 = .ok (.aload_n 0, 1) := by decide +kernel
theorem dX12_buy_10 : decode cX12_buy 10 = .ok (.getfield 151, 3) := by decide +kernel
theorem dX12_buy_13 : decode cX12_buy 13 = .ok (.invokevirtual 197, 3) := by decide +kernel
theorem dX12_buy_16 : decode cX12_buy 16 = .ok (.aload_n 0, 1) := by decide +kernel
theorem dX12_buy_17 : decode cX12_buy 17 = .ok (.iload_n 1, 1) := by decide +kernel
theorem dX12_buy_18 : decode cX12_buy 18 = .ok (.iload_n 2, 1) := by decide +kernel
theorem dX12_buy_19 : decode cX12_buy 19 = .ok (.invokevirtual 201, 3) := by decide +kernel
theorem dX12_buy_22 : decode cX12_buy 22 = .ok (.pop, 1) := by decide +kernel
theorem dX12_buy_23 : decode cX12_buy 23 = .ok (.aload_n 0, 1) := by decide +kernel
theorem dX12_buy_24 : decode cX12_buy 24 = .ok (.getfield 7, 3) := by decide +kernel
theorem dX12_buy_27 : decode cX12_buy 27 = .ok (.iload_n 1, 1) := by decide +kernel
theorem dX12_buy_28 : decode cX12_buy 28 = .ok (.iaload, 1) := by decide +kernel
theorem dX12_buy_29 : decode cX12_buy 29 = .ok (.istore_n 3, 1) := by decide +kernel
theorem dX12_buy_30 : decode cX12_buy 30 = .ok (.iload_n 3, 1) := by decide +kernel
theorem dX12_buy_31 : decode cX12_buy 31 = .ok (.iload_n 2, 1) := by decide +kernel
theorem dX12_buy_32 : decode cX12_buy 32 = .ok (.if_icmp .eq 23, 3) := by decide +kernel
theorem dX12_buy_35 : decode cX12_buy 35 = .ok (.aload_n 0, 1) := by decide +kernel
theorem dX12_buy_36 : decode cX12_buy 36 = .ok (.iload_n 3, 1) := by decide +kernel
theorem dX12_buy_37 : decode cX12_buy 37 = .ok (.iconst 5, 1) := by decide +kernel
theorem dX12_buy_38 : decode cX12_buy 38 = .ok (.aload_n 0, 1) := by decide +kernel
theorem dX12_buy_39 : decode cX12_buy 39 = .ok (.getfield 151, 3) := by decide +kernel
theorem dX12_buy_42 : decode cX12_buy 42 = .ok (.invokevirtual 197, 3) := by decide +kernel
theorem dX12_buy_45 : decode cX12_buy 45 = .ok (.aload_n 0, 1) := by decide +kernel
theorem dX12_buy_46 : decode cX12_buy 46 = .ok (.getfield 7, 3) := by decide +kernel
theorem dX12_buy_49 : decode cX12_buy 49 = .ok (.iload_n 3, 1) := by decide +kernel
theorem dX12_buy_50 : decode cX12_buy 50 = .ok (.iaload, 1) := by decide +kernel
theorem dX12_buy_51 : decode cX12_buy 51 = .ok (.istore_n 3, 1) := by decide +kernel
theorem dX12_buy_52 : decode cX12_buy 52 = .ok (.goto (-22), 3) := by decide +kernel
theorem dX12_buy_55 : decode cX12_buy 55 = .ok (.aload_n 0, 1) := by decide +kernel
theorem dX12_buy_56 : decode cX12_buy 56 = .ok (.getfield 7, 3) := by decide +kernel
theorem dX12_buy_59 : decode cX12_buy 59 = .ok (.iload_n 1, 1) := by decide +kernel
theorem dX12_buy_60 : decode cX12_buy 60 = .ok (.iaload, 1) := by decide +kernel
theorem dX12_buy_61 : decode cX12_buy 61 = .ok (.istore_n 3, 1) := by decide +kernel
theorem dX12_buy_62 : decode cX12_buy 62 = .ok (.iload_n 3, 1) := by decide +kernel
theorem dX12_buy_63 : decode cX12_buy 63 = .ok (.iload_n 2, 1) := by decide +kernel
theorem dX12_buy_64 : decode cX12_buy 64 = .ok (.if_icmp .eq 21, 3) := by decide +kernel
theorem dX12_buy_67 : decode cX12_buy 67 = .ok (.aload_n 0, 1) := by decide +kernel
theorem dX12_buy_68 : decode cX12_buy 68 = .ok (.iload_n 3, 1) := by decide +kernel
theorem dX12_buy_69 : decode cX12_buy 69 = .ok (.bipush (-6), 2) := by decide +kernel
theorem dX12_buy_71 : decode cX12_buy 71 = .ok (.invokevirtual 316, 3) := by decide +kernel
theorem dX12_buy_74 : decode cX12_buy 74 = .ok (.pop, 1) := by decide +kernel
theorem dX12_buy_75 : decode cX12_buy 75 = .ok (.aload_n 0, 1) := by decide +kernel
theorem dX12_buy_76 : decode cX12_buy 76 = .ok (.getfield 7, 3) := by decide +kernel
theorem dX12_buy_79 : decode cX12_buy 79 = .ok (.iload_n 3, 1) := by decide +kernel
theorem dX12_buy_80 : decode cX12_buy 80 = .ok (.iaload, 1) := by decide +kernel
theorem dX12_buy_81 : decode cX12_buy 81 = .ok (.istore_n 3, 1) := by decide +kernel
theorem dX12_buy_82 : decode cX12_buy 82 = .ok (.goto (-20), 3) := by decide +kernel
theorem dX12_buy_85 : decode cX12_buy 85 = .ok (.aload_n 0, 1) := by decide +kernel
theorem dX12_buy_86 : decode cX12_buy 86 = .ok (.getfield 28, 3) := by decide +kernel
theorem dX12_buy_89 : decode cX12_buy 89 = .ok (.iload_n 2, 1) := by decide +kernel
theorem dX12_buy_90 : decode cX12_buy 90 = .ok (.aload_n 0, 1) := by decide +kernel
theorem dX12_buy_91 : decode cX12_buy 91 = .ok (.getfield 28, 3) := by decide +kernel
theorem dX12_buy_94 : decode cX12_buy 94 = .ok (.iload_n 1, 1) := by decide +kernel
theorem dX12_buy_95 : decode cX12_buy 95 = .ok (.iaload, 1) := by decide +kernel
theorem dX12_buy_96 : decode cX12_buy 96 = .ok (.iastore, 1) := by decide +kernel
theorem dX12_buy_97 : decode cX12_buy 97 = .ok (.aload_n 0, 1) := by decide +kernel
theorem dX12_buy_98 : decode cX12_buy 98 = .ok (.getfield 31, 3) := by decide +kernel
theorem dX12_buy_101 : decode cX12_buy 101 = .ok (.iload_n 2, 1) := by decide +kernel
theorem dX12_buy_102 : decode cX12_buy 102 = .ok (.aload_n 0, 1) := by decide +kernel
theorem dX12_buy_103 : decode cX12_buy 103 = .ok (.getfield 151, 3) := by decide +kernel
theorem dX12_buy_106 : decode cX12_buy 106 = .ok (.iastore, 1) := by decide +kernel
theorem dX12_buy_107 : decode cX12_buy 107 = .ok (.return_, 1) := by decide +kernel
def vb_X12_buy_62 (post : Unit → mj_M → Prop) : Nat → Nat → Int32 → Int32 → Int32 → mj_M → Prop
  | 0 => fun _ _ _ _ _ => False
  | f + 1 => fun l0 l1 l2 l3 M => if l3 = l2 then (mj_tag M l0 = 13 ∧ mj_tag M (mj_r M l0 7) = 101 ∧ vp_in l1 (mj_len M (mj_r M l0 7)) ∧ vp_in l2 (mj_len M (mj_r M l0 7)) ∧ mj_tag M (mj_r M l0 8) = 101 ∧ vp_in l2 (mj_len M (mj_r M l0 8)) ∧ post () (mj_wi (mj_wi M (mj_r M l0 7) (l2 : Int32).toNatClampNeg (mj_i M (mj_r M l0 7) (l1 : Int32).toNatClampNeg)) (mj_r M l0 8) (l2 : Int32).toNatClampNeg (mj_i (mj_wi M (mj_r M l0 7) (l2 : Int32).toNatClampNeg (mj_i M (mj_r M l0 7) (l1 : Int32).toNatClampNeg)) l0 0))) else (mj_tag M l0 = 13 ∧ vc_X12_fallAll l0 l3 ((-6)) M (fun r9 M10 => mj_tag M10 l0 = 13 ∧ mj_tag M10 (mj_r M10 l0 1) = 101 ∧ vp_in l3 (mj_len M10 (mj_r M10 l0 1)) ∧ vb_X12_buy_62 post f l0 l1 l2 (mj_i M10 (mj_r M10 l0 1) (l3 : Int32).toNatClampNeg) M10))
def vb_X12_buy_30 (post : Unit → mj_M → Prop) : Nat → Nat → Int32 → Int32 → Int32 → mj_M → Prop
  | 0 => fun _ _ _ _ _ => False
  | f + 1 => fun l0 l1 l2 l3 M => if l3 = l2 then (mj_tag M l0 = 13 ∧ mj_tag M (mj_r M l0 1) = 101 ∧ vp_in l1 (mj_len M (mj_r M l0 1)) ∧ ∃ fe, vb_X12_buy_62 post fe l0 l1 l2 (mj_i M (mj_r M l0 1) (l1 : Int32).toNatClampNeg) M) else (mj_tag M l0 = 13 ∧ vc_X12_close l0 l3 5 (mj_i M l0 0) M (fun _ M19 => mj_tag M19 l0 = 13 ∧ mj_tag M19 (mj_r M19 l0 1) = 101 ∧ vp_in l3 (mj_len M19 (mj_r M19 l0 1)) ∧ vb_X12_buy_30 post f l0 l1 l2 (mj_i M19 (mj_r M19 l0 1) (l3 : Int32).toNatClampNeg) M19))
def vc_X12_buy (l0 : Nat) (l1 : Int32) (M : mj_M) (post : Unit → mj_M → Prop) : Prop := mj_tag M l0 = 13 ∧ vc_X12_wholeOf l0 l1 M (fun r24 M25 => mj_tag M25 l0 = 13 ∧ vc_X12_close l0 l1 3 (mj_i M25 l0 0) M25 (fun _ M27 => mj_tag M27 l0 = 13 ∧ vc_X12_moveUp l0 l1 r24 M27 (fun r29 M30 => mj_tag M30 l0 = 13 ∧ mj_tag M30 (mj_r M30 l0 1) = 101 ∧ vp_in l1 (mj_len M30 (mj_r M30 l0 1)) ∧ ∃ fe, vb_X12_buy_30 post fe l0 l1 r24 (mj_i M30 (mj_r M30 l0 1) (l1 : Int32).toNatClampNeg) M30)))
set_option maxHeartbeats 4000000 in
set_option maxRecDepth 100000 in
theorem xb_X12_buy_62 {g : mj_G} {post : Unit → mj_M → Prop} (hC : mj_C g yX12_buy cX12_buy 4 (none) rm_X12_buy) (hE : mj_E g mj_jV post 0 0) : ∀ (f : Nat) (l0 : Nat) (l1 : Int32) (l2 : Int32) (l3 : Int32) (M : mj_M), vb_X12_buy_62 post f l0 l1 l2 l3 M → mj_X g 62 [(0, vR l0), (1, vI l1), (2, vI l2), (3, vI l3)] [] M 0 0 := by
  intro f
  induction f with
  | zero => exact fun _ _ _ _ _ h => absurd h (fun z => z)
  | succ f ih =>
    intro l0 l1 l2 l3 M h
    simp only [vb_X12_buy_62] at h
    refine mx_iload_n (j := 3) hC dX12_buy_62 rfl rfl ?_
    refine mx_iload_n (j := 2) hC dX12_buy_63 rfl rfl ?_
    refine mx_icmpeq (tgt := 85) hC dX12_buy_64 (by decide) (fun hc1 => ?_) (fun hc1 => ?_)
    · replace h := mj_yy hc1 h
      refine mx_aload_n (j := 0) hC dX12_buy_85 rfl rfl ?_
      obtain ⟨ht2, h⟩ := h
      refine mx_get (v := vR (mj_r M l0 7)) hC tf_X12_28 ht2 rfl dX12_buy_86 ?_
      refine mx_iload_n (j := 2) hC dX12_buy_89 rfl rfl ?_
      refine mx_aload_n (j := 0) hC dX12_buy_90 rfl rfl ?_
      refine mx_get (v := vR (mj_r M l0 7)) hC tf_X12_28 ht2 rfl dX12_buy_91 ?_
      refine mx_iload_n (j := 1) hC dX12_buy_94 rfl rfl ?_
      obtain ⟨ht3, h⟩ := h
      obtain ⟨hi4, h⟩ := h
      refine mx_iaload hC ht3 hi4 dX12_buy_95 ?_
      obtain ⟨hi5, h⟩ := h
      refine mx_iastore hC ht3 hi5 dX12_buy_96 ?_
      refine mx_aload_n (j := 0) hC dX12_buy_97 rfl rfl ?_
      refine mx_get (v := vR (mj_r M l0 8)) hC tf_X12_31 ht2 rfl dX12_buy_98 ?_
      refine mx_iload_n (j := 2) hC dX12_buy_101 rfl rfl ?_
      refine mx_aload_n (j := 0) hC dX12_buy_102 rfl rfl ?_
      refine mx_get (v := vI (mj_i (mj_wi M (mj_r M l0 7) (l2 : Int32).toNatClampNeg (mj_i M (mj_r M l0 7) (l1 : Int32).toNatClampNeg)) l0 0)) hC tf_X12_151 ht2 rfl dX12_buy_103 ?_
      obtain ⟨ht6, h⟩ := h
      obtain ⟨hi7, h⟩ := h
      refine mx_iastore hC ht6 hi7 dX12_buy_106 ?_
      exact mx_vret hC hE rfl dX12_buy_107 h
    · replace h := mj_nn hc1 h
      refine mx_aload_n (j := 0) hC dX12_buy_67 rfl rfl ?_
      refine mx_iload_n (j := 3) hC dX12_buy_68 rfl rfl ?_
      refine mx_bipush (v := (-6)) hC dX12_buy_69 (by decide) ?_
      obtain ⟨ht8, h⟩ := h
      refine mx_callV (inj := mj_jI) (As := [vI l3, vI ((-6))]) (st := []) hC (ct_X12_fallAll l0 l3 ((-6)) M _ h) ty_X12_fallAll tw1665 ht8 rfl (Nat.le_of_ble_eq_true rfl) ⟨rfl, rfl, ⟨by decide, by decide⟩, by decide, by decide⟩ dX12_buy_71 (fun r9 M10 h => ?_)
      show mj_X g 74 [(0, vR l0), (1, vI l1), (2, vI l2), (3, vI l3)] [vI r9] M10 0 0
      refine mx_pop hC dX12_buy_74 rfl ?_
      refine mx_aload_n (j := 0) hC dX12_buy_75 rfl rfl ?_
      obtain ⟨ht11, h⟩ := h
      refine mx_get (v := vR (mj_r M10 l0 1)) hC tf_X12_7 ht11 rfl dX12_buy_76 ?_
      refine mx_iload_n (j := 3) hC dX12_buy_79 rfl rfl ?_
      obtain ⟨ht12, h⟩ := h
      obtain ⟨hi13, h⟩ := h
      refine mx_iaload hC ht12 hi13 dX12_buy_80 ?_
      refine mx_istore_n (L' := [(3, vI (mj_i M10 (mj_r M10 l0 1) (l3 : Int32).toNatClampNeg)), (0, vR l0), (1, vI l1), (2, vI l2)]) hC dX12_buy_81 rfl (by decide) rfl ?_
      refine mx_goto (tgt := 62) hC dX12_buy_82 (by decide) ?_
      refine mx_sub (L' := [(0, vR l0), (1, vI l1), (2, vI l2), (3, vI (mj_i M10 (mj_r M10 l0 1) (l3 : Int32).toNatClampNeg))]) [1, 2, 3, 0] rfl ?_
      exact show mj_X g 62 [(0, vR l0), (1, vI l1), (2, vI l2), (3, vI (mj_i M10 (mj_r M10 l0 1) (l3 : Int32).toNatClampNeg))] [] M10 0 0 from (ih l0 l1 l2 (mj_i M10 (mj_r M10 l0 1) (l3 : Int32).toNatClampNeg) M10 h)
set_option maxHeartbeats 4000000 in
set_option maxRecDepth 100000 in
theorem xb_X12_buy_30 {g : mj_G} {post : Unit → mj_M → Prop} (hC : mj_C g yX12_buy cX12_buy 4 (none) rm_X12_buy) (hE : mj_E g mj_jV post 0 0) : ∀ (f : Nat) (l0 : Nat) (l1 : Int32) (l2 : Int32) (l3 : Int32) (M : mj_M), vb_X12_buy_30 post f l0 l1 l2 l3 M → mj_X g 30 [(0, vR l0), (1, vI l1), (2, vI l2), (3, vI l3)] [] M 0 0 := by
  intro f
  induction f with
  | zero => exact fun _ _ _ _ _ h => absurd h (fun z => z)
  | succ f ih =>
    intro l0 l1 l2 l3 M h
    simp only [vb_X12_buy_30] at h
    refine mx_iload_n (j := 3) hC dX12_buy_30 rfl rfl ?_
    refine mx_iload_n (j := 2) hC dX12_buy_31 rfl rfl ?_
    refine mx_icmpeq (tgt := 55) hC dX12_buy_32 (by decide) (fun hc14 => ?_) (fun hc14 => ?_)
    · replace h := mj_yy hc14 h
      refine mx_aload_n (j := 0) hC dX12_buy_55 rfl rfl ?_
      obtain ⟨ht15, h⟩ := h
      refine mx_get (v := vR (mj_r M l0 1)) hC tf_X12_7 ht15 rfl dX12_buy_56 ?_
      refine mx_iload_n (j := 1) hC dX12_buy_59 rfl rfl ?_
      obtain ⟨ht16, h⟩ := h
      obtain ⟨hi17, h⟩ := h
      refine mx_iaload hC ht16 hi17 dX12_buy_60 ?_
      refine mx_istore_n (L' := [(3, vI (mj_i M (mj_r M l0 1) (l1 : Int32).toNatClampNeg)), (0, vR l0), (1, vI l1), (2, vI l2)]) hC dX12_buy_61 rfl (by decide) rfl ?_
      refine mx_sub (L' := [(0, vR l0), (1, vI l1), (2, vI l2), (3, vI (mj_i M (mj_r M l0 1) (l1 : Int32).toNatClampNeg))]) [1, 2, 3, 0] rfl ?_
      obtain ⟨fe, h⟩ := h
      exact show mj_X g 62 [(0, vR l0), (1, vI l1), (2, vI l2), (3, vI (mj_i M (mj_r M l0 1) (l1 : Int32).toNatClampNeg))] [] M 0 0 from (xb_X12_buy_62 hC hE fe l0 l1 l2 (mj_i M (mj_r M l0 1) (l1 : Int32).toNatClampNeg) M h)
    · replace h := mj_nn hc14 h
      refine mx_aload_n (j := 0) hC dX12_buy_35 rfl rfl ?_
      refine mx_iload_n (j := 3) hC dX12_buy_36 rfl rfl ?_
      refine mx_iconst (v := 5) hC dX12_buy_37 (by decide) ?_
      refine mx_aload_n (j := 0) hC dX12_buy_38 rfl rfl ?_
      obtain ⟨ht18, h⟩ := h
      refine mx_get (v := vI (mj_i M l0 0)) hC tf_X12_151 ht18 rfl dX12_buy_39 ?_
      refine mx_callV (inj := mj_jV) (As := [vI l3, vI 5, vI (mj_i M l0 0)]) (st := []) hC (ct_X12_close l0 l3 5 (mj_i M l0 0) M _ h) ty_X12_close tw1460 ht18 rfl (Nat.le_of_ble_eq_true rfl) ⟨rfl, rfl, ⟨by decide, by decide⟩, by decide, by decide⟩ dX12_buy_42 (fun _ M19 h => ?_)
      show mj_X g 45 [(0, vR l0), (1, vI l1), (2, vI l2), (3, vI l3)] [] M19 0 0
      refine mx_aload_n (j := 0) hC dX12_buy_45 rfl rfl ?_
      obtain ⟨ht20, h⟩ := h
      refine mx_get (v := vR (mj_r M19 l0 1)) hC tf_X12_7 ht20 rfl dX12_buy_46 ?_
      refine mx_iload_n (j := 3) hC dX12_buy_49 rfl rfl ?_
      obtain ⟨ht21, h⟩ := h
      obtain ⟨hi22, h⟩ := h
      refine mx_iaload hC ht21 hi22 dX12_buy_50 ?_
      refine mx_istore_n (L' := [(3, vI (mj_i M19 (mj_r M19 l0 1) (l3 : Int32).toNatClampNeg)), (0, vR l0), (1, vI l1), (2, vI l2)]) hC dX12_buy_51 rfl (by decide) rfl ?_
      refine mx_goto (tgt := 30) hC dX12_buy_52 (by decide) ?_
      refine mx_sub (L' := [(0, vR l0), (1, vI l1), (2, vI l2), (3, vI (mj_i M19 (mj_r M19 l0 1) (l3 : Int32).toNatClampNeg))]) [1, 2, 3, 0] rfl ?_
      exact show mj_X g 30 [(0, vR l0), (1, vI l1), (2, vI l2), (3, vI (mj_i M19 (mj_r M19 l0 1) (l3 : Int32).toNatClampNeg))] [] M19 0 0 from (ih l0 l1 l2 (mj_i M19 (mj_r M19 l0 1) (l3 : Int32).toNatClampNeg) M19 h)
set_option maxHeartbeats 4000000 in
set_option maxRecDepth 100000 in
theorem ct_X12_buy {l : Launch} {base : Nat} {D : va_G} {A : ClassId × ClassId × ClassId} (l0 : Nat) (l1 : Int32) (M : mj_M) (post : Unit → mj_M → Prop) (h : vc_X12_buy l0 l1 M post) : mj_Met l base D A mj_jV yX12_buy cX12_buy 4 (none) rm_X12_buy 0 0 [vR l0, vI l1] M post := by
  refine mj_entry (by decide +kernel) (Nat.le_of_ble_eq_true rfl) (fun g hC hE h1 h2 h3 h4 => ?_)
  show mj_X g 0 [(0, vR l0), (1, vI l1)] [] M 0 0
  simp only [vc_X12_buy] at h
  refine mx_aload_n (j := 0) hC dX12_buy_0 rfl rfl ?_
  refine mx_iload_n (j := 1) hC dX12_buy_1 rfl rfl ?_
  obtain ⟨ht23, h⟩ := h
  refine mx_callV (inj := mj_jI) (As := [vI l1]) (st := []) hC (ct_X12_wholeOf l0 l1 M _ h) ty_X12_wholeOf tw1661 ht23 rfl (Nat.le_of_ble_eq_true rfl) ⟨rfl, rfl, ⟨by decide, by decide⟩, by decide, by decide⟩ dX12_buy_2 (fun r24 M25 h => ?_)
  show mj_X g 5 [(0, vR l0), (1, vI l1)] [vI r24] M25 0 0
  refine mx_istore_n (L' := [(2, vI r24), (0, vR l0), (1, vI l1)]) hC dX12_buy_5 rfl (by decide) rfl ?_
  refine mx_aload_n (j := 1) hC dX12_buy_6 rfl rfl ?_
  refine mx_iload_n (j := 2) hC dX12_buy_7 rfl rfl ?_
  refine mx_iconst (v := 3) hC dX12_buy_8 (by decide) ?_
  refine mx_aload_n (j := 1) hC dX12_buy_9 rfl rfl ?_
  obtain ⟨ht26, h⟩ := h
  refine mx_get (v := vI (mj_i M25 l0 0)) hC tf_X12_151 ht26 rfl dX12_buy_10 ?_
  refine mx_callV (inj := mj_jV) (As := [vI l1, vI 3, vI (mj_i M25 l0 0)]) (st := []) hC (ct_X12_close l0 l1 3 (mj_i M25 l0 0) M25 _ h) ty_X12_close tw1460 ht26 rfl (Nat.le_of_ble_eq_true rfl) ⟨rfl, rfl, ⟨by decide, by decide⟩, by decide, by decide⟩ dX12_buy_13 (fun _ M27 h => ?_)
  show mj_X g 16 [(2, vI r24), (0, vR l0), (1, vI l1)] [] M27 0 0
  refine mx_aload_n (j := 1) hC dX12_buy_16 rfl rfl ?_
  refine mx_iload_n (j := 2) hC dX12_buy_17 rfl rfl ?_
  refine mx_iload_n (j := 0) hC dX12_buy_18 rfl rfl ?_
  obtain ⟨ht28, h⟩ := h
  refine mx_callV (inj := mj_jI) (As := [vI l1, vI r24]) (st := []) hC (ct_X12_moveUp l0 l1 r24 M27 _ h) ty_X12_moveUp tw1464 ht28 rfl (Nat.le_of_ble_eq_true rfl) ⟨rfl, rfl, ⟨by decide, by decide⟩, by decide, by decide⟩ dX12_buy_19 (fun r29 M30 h => ?_)
  show mj_X g 22 [(2, vI r24), (0, vR l0), (1, vI l1)] [vI r29] M30 0 0
  refine mx_pop hC dX12_buy_22 rfl ?_
  refine mx_aload_n (j := 1) hC dX12_buy_23 rfl rfl ?_
  obtain ⟨ht31, h⟩ := h
  refine mx_get (v := vR (mj_r M30 l0 1)) hC tf_X12_7 ht31 rfl dX12_buy_24 ?_
  refine mx_iload_n (j := 2) hC dX12_buy_27 rfl rfl ?_
  obtain ⟨ht32, h⟩ := h
  obtain ⟨hi33, h⟩ := h
  refine mx_iaload hC ht32 hi33 dX12_buy_28 ?_
  refine mx_istore_n (L' := [(3, vI (mj_i M30 (mj_r M30 l0 1) (l1 : Int32).toNatClampNeg)), (2, vI r24), (0, vR l0), (1, vI l1)]) hC dX12_buy_29 rfl (by decide) rfl ?_
  refine mx_sub (L' := [(0, vR l0), (1, vI l1), (2, vI r24), (3, vI (mj_i M30 (mj_r M30 l0 1) (l1 : Int32).toNatClampNeg))]) [2, 3, 1, 0] rfl ?_
  obtain ⟨fe, h⟩ := h
  exact show mj_X g 30 [(0, vR l0), (1, vI l1), (2, vI r24), (3, vI (mj_i M30 (mj_r M30 l0 1) (l1 : Int32).toNatClampNeg))] [] M30 0 0 from (xb_X12_buy_30 hC hE fe l0 l1 r24 (mj_i M30 (mj_r M30 l0 1) (l1 : Int32).toNatClampNeg) M30 h)
theorem tw1640 : (Jvm.Cond.methodLink "LeaseLandModel" (319 : Nat) ({ cls := "LeaseLandModel", name := "hasAll", desc := "(I)Z" } : Jvm.MethodName)) ∈ mj_tbl := mj_w 1693 (by decide +kernel) (by decide +kernel)
theorem tw1644 : (Jvm.Cond.methodLink "LeaseLandModel" (322 : Nat) ({ cls := "LeaseLandModel", name := "longer", desc := "(I)Z" } : Jvm.MethodName)) ∈ mj_tbl := mj_w 1697 (by decide +kernel) (by decide +kernel)
theorem tw1657 : (Jvm.Cond.methodLink "LeaseLandModel" (325 : Nat) ({ cls := "LeaseLandModel", name := "buy", desc := "(I)V" } : Jvm.MethodName)) ∈ mj_tbl := mj_w 1710 (by decide +kernel) (by decide +kernel)
theorem tw1660 : (Jvm.Cond.code ({ cls := "LeaseLandModel", name := "buy", desc := "(I)V" } : Jvm.MethodName) prog_14_method_76_code (4 : Nat) (Option.none : Option Jvm.ClassFile.FieldType)) ∈ mj_tbl := mj_w 1713 (by decide +kernel) (by decide +kernel)
theorem tw1659 : (Jvm.Cond.instanceMethod ({ cls := "LeaseLandModel", name := "buy", desc := "(I)V" } : Jvm.MethodName)) ∈ mj_tbl := mj_w 1712 (by decide +kernel) (by decide +kernel)
theorem ty_X12_buy : mj_YV 12 yX12_buy cX12_buy 4 (none) 1 := ⟨⟨tw1660, tw11, by decide +kernel, by decide +kernel, by decide +kernel⟩, tw1659, mj_w 35 (by decide +kernel) (by decide +kernel), _, rfl, rfl⟩
theorem tw1643 : (Jvm.Cond.code ({ cls := "LeaseLandModel", name := "hasAll", desc := "(I)Z" } : Jvm.MethodName) prog_14_method_74_code (4 : Nat) (Option.some Jvm.ClassFile.FieldType.boolean)) ∈ mj_tbl := mj_w 1696 (by decide +kernel) (by decide +kernel)
theorem tw1642 : (Jvm.Cond.instanceMethod ({ cls := "LeaseLandModel", name := "hasAll", desc := "(I)Z" } : Jvm.MethodName)) ∈ mj_tbl := mj_w 1695 (by decide +kernel) (by decide +kernel)
theorem ty_X12_hasAll : mj_YV 12 yX12_hasAll cX12_hasAll 4 (some .boolean) 1 := ⟨⟨tw1643, tw11, by decide +kernel, by decide +kernel, by decide +kernel⟩, tw1642, mj_w 31 (by decide +kernel) (by decide +kernel), _, rfl, rfl⟩
theorem tw1647 : (Jvm.Cond.code ({ cls := "LeaseLandModel", name := "longer", desc := "(I)Z" } : Jvm.MethodName) prog_14_method_71_code (4 : Nat) (Option.some Jvm.ClassFile.FieldType.boolean)) ∈ mj_tbl := mj_w 1700 (by decide +kernel) (by decide +kernel)
theorem tw1646 : (Jvm.Cond.instanceMethod ({ cls := "LeaseLandModel", name := "longer", desc := "(I)Z" } : Jvm.MethodName)) ∈ mj_tbl := mj_w 1699 (by decide +kernel) (by decide +kernel)
theorem ty_X12_longer : mj_YV 12 yX12_longer cX12_longer 4 (some .boolean) 1 := ⟨⟨tw1647, tw11, by decide +kernel, by decide +kernel, by decide +kernel⟩, tw1646, mj_w 32 (by decide +kernel) (by decide +kernel), _, rfl, rfl⟩
def rm_X12_carry : Room := { frames := 6, cells := 0, slots := 0, locals := 141 }
theorem dX12_carry_0 : decode cX12_carry 0 = .ok (.aload_n 0, 1) := by decide +kernel
theorem dX12_carry_1 : decode cX12_carry 1 = .ok (.iload_n 1, 1) := by decide +kernel
theorem dX12_carry_2 : decode cX12_carry 2 = .ok (.invokevirtual 299, 3) := by decide +kernel
theorem dX12_carry_5 : decode cX12_carry 5 = .ok (.ifCond .ne 5, 3) := by decide +kernel
theorem dX12_carry_8 : decode cX12_carry 8 = .ok (.iconst (-1), 1) := by decide +kernel
theorem dX12_carry_9 : decode cX12_carry 9 = .ok (.ireturn, 1) := by decide +kernel
theorem dX12_carry_10 : decode cX12_carry 10 = .ok (.aload_n 0, 1) := by decide +kernel
theorem dX12_carry_11 : decode cX12_carry 11 = .ok (.getfield 74, 3) := by decide +kernel
theorem dX12_carry_14 : decode cX12_carry 14 = .ok (.iload_n 1, 1) := by decide +kernel
theorem dX12_carry_15 : decode cX12_carry 15 = .ok (.iaload, 1) := by decide +kernel
theorem dX12_carry_16 : decode cX12_carry 16 = .ok (.istore_n 2, 1) := by decide +kernel
theorem dX12_carry_17 : decode cX12_carry 17 = .ok (.aload_n 0, 1) := by decide +kernel
theorem dX12_carry_18 : decode cX12_carry 18 = .ok (.iload_n 1, 1) := by decide +kernel
theorem dX12_carry_19 : decode cX12_carry 19 = .ok (.invokevirtual 293, 3) := by decide +kernel
theorem dX12_carry_22 : decode cX12_carry 22 = .ok (.iconst 1, 1) := by decide +kernel
theorem dX12_carry_23 : decode cX12_carry 23 = .ok (.if_icmp .ne 15, 3) := by decide +kernel
theorem dX12_carry_26 : decode cX12_carry 26 = .ok (.aload_n 0, 1) := by decide +kernel
theorem dX12_carry_27 : decode cX12_carry 27 = .ok (.iload_n 2, 1) := by decide +kernel
theorem dX12_carry_28 : decode cX12_carry 28 = .ok (.aload_n 0, 1) := by decide +kernel
theorem dX12_carry_29 : decode cX12_carry 29 = .ok (.getfield 151, 3) := by decide +kernel
theorem dX12_carry_32 : decode cX12_carry 32 = .ok (.invokevirtual 187, 3) := by decide +kernel
theorem dX12_carry_35 : decode cX12_carry 35 = .ok (.ifCond .ne 6, 3) := by decide +kernel
theorem dX12_carry_38 : decode cX12_carry 38 = .ok (.bipush (-3), 2) := by decide +kernel
theorem dX12_carry_40 : decode cX12_carry 40 = .ok (.ireturn, 1) := by decide +kernel
theorem dX12_carry_41 : decode cX12_carry 41 = .ok (.aload_n 0, 1) := by decide +kernel
theorem dX12_carry_42 : decode cX12_carry 42 = .ok (.getfield 77, 3) := by decide +kernel
theorem dX12_carry_45 : decode cX12_carry 45 = .ok (.iload_n 1, 1) := by decide +kernel
theorem dX12_carry_46 : decode cX12_carry 46 = .ok (.iaload, 1) := by decide +kernel
theorem dX12_carry_47 : decode cX12_carry 47 = .ok (.iconst 1, 1) := by decide +kernel
theorem dX12_carry_48 : decode cX12_carry 48 = .ok (.if_icmp .ne 11, 3) := by decide +kernel
theorem dX12_carry_51 : decode cX12_carry 51 = .ok (.aload_n 0, 1) := by decide +kernel
theorem dX12_carry_52 : decode cX12_carry 52 = .ok (.iload_n 2, 1) := by decide +kernel
theorem dX12_carry_53 : decode cX12_carry 53 = .ok (.invokevirtual 319, 3) := by decide +kernel
theorem dX12_carry_56 : decode cX12_carry 56 = .ok (.ifCond .eq 20, 3) := by decide +kernel
theorem dX12_carry_59 : decode cX12_carry 59 = .ok (.aload_n 0, 1) := by decide +kernel
theorem dX12_carry_60 : decode cX12_carry 60 = .ok (.getfield 77, 3) := by decide +kernel
theorem dX12_carry_63 : decode cX12_carry 63 = .ok (.iload_n 1, 1) := by decide +kernel
theorem dX12_carry_64 : decode cX12_carry 64 = .ok (.iaload, 1) := by decide +kernel
theorem dX12_carry_65 : decode cX12_carry 65 = .ok (.ifCond .ne 14, 3) := by decide +kernel
theorem dX12_carry_68 : decode cX12_carry 68 = .ok (.aload_n 0, 1) := by decide +kernel
theorem dX12_carry_69 : decode cX12_carry 69 = .ok (.iload_n 2, 1) := by decide +kernel
theorem dX12_carry_70 : decode cX12_carry 70 = .ok (.invokevirtual 322, 3) := by decide +kernel
theorem dX12_carry_73 : decode cX12_carry 73 = .ok (.ifCond .ne 6, 3) := by decide +kernel
theorem dX12_carry_76 : decode cX12_carry 76 = .ok (.bipush (-5), 2) := by decide +kernel
theorem dX12_carry_78 : decode cX12_carry 78 = .ok (.ireturn, 1) := by decide +kernel
theorem dX12_carry_79 : decode cX12_carry 79 = .ok (.aload_n 0, 1) := by decide +kernel
theorem dX12_carry_80 : decode cX12_carry 80 = .ok (.getfield 77, 3) := by decide +kernel
theorem dX12_carry_83 : decode cX12_carry 83 = .ok (.iload_n 1, 1) := by decide +kernel
theorem dX12_carry_84 : decode cX12_carry 84 = .ok (.iaload, 1) := by decide +kernel
theorem dX12_carry_85 : decode cX12_carry 85 = .ok (.iconst 1, 1) := by decide +kernel
theorem dX12_carry_86 : decode cX12_carry 86 = .ok (.if_icmp .ne 8, 3) := by decide +kernel
theorem dX12_carry_89 : decode cX12_carry 89 = .ok (.aload_n 0, 1) := by decide +kernel
theorem dX12_carry_90 : decode cX12_carry 90 = .ok (.iload_n 2, 1) := by decide +kernel
theorem dX12_carry_91 : decode cX12_carry 91 = .ok (.invokevirtual 325, 3) := by decide +kernel
theorem dX12_carry_94 : decode cX12_carry 94 = .ok (.aload_n 0, 1) := by decide +kernel
theorem dX12_carry_95 : decode cX12_carry 95 = .ok (.getfield 83, 3) := by decide +kernel
theorem dX12_carry_98 : decode cX12_carry 98 = .ok (.iload_n 1, 1) := by decide +kernel
theorem dX12_carry_99 : decode cX12_carry 99 = .ok (.iconst 4, 1) := by decide +kernel
theorem dX12_carry_100 : decode cX12_carry 100 = .ok (.iastore, 1) := by decide +kernel
theorem dX12_carry_101 : decode cX12_carry 101 = .ok (.iconst 1, 1) := by decide +kernel
theorem dX12_carry_102 : decode cX12_carry 102 = .ok (.ireturn, 1) := by decide +kernel
def vb_X12_carry_94 (post : Int32 → mj_M → Prop) (l0 : Nat) (l1 : Int32) (M : mj_M) : Prop := mj_tag M l0 = 13 ∧ mj_tag M (mj_r M l0 28) = 101 ∧ vp_in l1 (mj_len M (mj_r M l0 28)) ∧ post 1 (mj_wi M (mj_r M l0 28) (l1 : Int32).toNatClampNeg 4)
def vb_X12_carry_79 (post : Int32 → mj_M → Prop) (l0 : Nat) (l1 : Int32) (l2 : Int32) (M : mj_M) : Prop := mj_tag M l0 = 13 ∧ mj_tag M (mj_r M l0 26) = 101 ∧ vp_in l1 (mj_len M (mj_r M l0 26)) ∧ if (mj_i M (mj_r M l0 26) (l1 : Int32).toNatClampNeg) = 1 then (vc_X12_buy l0 l2 M (fun _ M8 => vb_X12_carry_94 post l0 l1 M8)) else (vb_X12_carry_94 post l0 l1 M)
def vb_X12_carry_59 (post : Int32 → mj_M → Prop) (l0 : Nat) (l1 : Int32) (l2 : Int32) (M : mj_M) : Prop := mj_tag M l0 = 13 ∧ mj_tag M (mj_r M l0 26) = 101 ∧ vp_in l1 (mj_len M (mj_r M l0 26)) ∧ if (mj_i M (mj_r M l0 26) (l1 : Int32).toNatClampNeg) = 0 then (vc_X12_longer l0 l2 M (fun r13 M14 => if r13 = true then (vb_X12_carry_79 post l0 l1 l2 M14) else (post ((-5)) M14))) else (vb_X12_carry_79 post l0 l1 l2 M)
def vc_X12_carry (l0 : Nat) (l1 : Int32) (M : mj_M) (post : Int32 → mj_M → Prop) : Prop := mj_tag M l0 = 13 ∧ vc_X12_isNotice l0 l1 M (fun r17 M18 => if r17 = true then (mj_tag M18 l0 = 13 ∧ mj_tag M18 (mj_r M18 l0 25) = 101 ∧ vp_in l1 (mj_len M18 (mj_r M18 l0 25)) ∧ vc_X12_statusOf l0 l1 M18 (fun r23 M24 => if r23 = 1 then (mj_tag M24 l0 = 13 ∧ vc_X12_isOn l0 (mj_i M18 (mj_r M18 l0 25) (l1 : Int32).toNatClampNeg) (mj_i M24 l0 0) M24 (fun r27 M28 => if r27 = true then (mj_tag M28 l0 = 13 ∧ mj_tag M28 (mj_r M28 l0 26) = 101 ∧ vp_in l1 (mj_len M28 (mj_r M28 l0 26)) ∧ if (mj_i M28 (mj_r M28 l0 26) (l1 : Int32).toNatClampNeg) = 1 then (vc_X12_hasAll l0 (mj_i M18 (mj_r M18 l0 25) (l1 : Int32).toNatClampNeg) M28 (fun r34 M35 => if r34 = true then (vb_X12_carry_59 post l0 l1 (mj_i M18 (mj_r M18 l0 25) (l1 : Int32).toNatClampNeg) M35) else (post ((-5)) M35))) else (vb_X12_carry_59 post l0 l1 (mj_i M18 (mj_r M18 l0 25) (l1 : Int32).toNatClampNeg) M28)) else (post ((-3)) M28))) else (post ((-3)) M24))) else (post ((-1)) M18))
set_option maxHeartbeats 4000000 in
set_option maxRecDepth 100000 in
theorem xb_X12_carry_94 {g : mj_G} {post : Int32 → mj_M → Prop} (hC : mj_C g yX12_carry cX12_carry 3 (some .int) rm_X12_carry) (hE : mj_E g mj_jI post 0 0) (l0 : Nat) (l1 : Int32) (M : mj_M) (h : vb_X12_carry_94 post l0 l1 M) : mj_X g 94 [(0, vR l0), (1, vI l1)] [] M 0 0 := by
  simp only [vb_X12_carry_94] at h
  refine mx_aload_n (j := 0) hC dX12_carry_94 rfl rfl ?_
  obtain ⟨ht1, h⟩ := h
  refine mx_get (v := vR (mj_r M l0 28)) hC tf_X12_83 ht1 rfl dX12_carry_95 ?_
  refine mx_iload_n (j := 1) hC dX12_carry_98 rfl rfl ?_
  refine mx_iconst (v := 4) hC dX12_carry_99 (by decide) ?_
  obtain ⟨ht2, h⟩ := h
  obtain ⟨hi3, h⟩ := h
  refine mx_iastore hC ht2 hi3 dX12_carry_100 ?_
  refine mx_iconst (v := 1) hC dX12_carry_101 (by decide) ?_
  exact mx_iret hC hE rfl dX12_carry_102 h
set_option maxHeartbeats 4000000 in
set_option maxRecDepth 100000 in
theorem xb_X12_carry_79 {g : mj_G} {post : Int32 → mj_M → Prop} (hC : mj_C g yX12_carry cX12_carry 3 (some .int) rm_X12_carry) (hE : mj_E g mj_jI post 0 0) (l0 : Nat) (l1 : Int32) (l2 : Int32) (M : mj_M) (h : vb_X12_carry_79 post l0 l1 l2 M) : mj_X g 79 [(0, vR l0), (1, vI l1), (2, vI l2)] [] M 0 0 := by
  simp only [vb_X12_carry_79] at h
  refine mx_aload_n (j := 0) hC dX12_carry_79 rfl rfl ?_
  obtain ⟨ht4, h⟩ := h
  refine mx_get (v := vR (mj_r M l0 26)) hC tf_X12_77 ht4 rfl dX12_carry_80 ?_
  refine mx_iload_n (j := 1) hC dX12_carry_83 rfl rfl ?_
  obtain ⟨ht5, h⟩ := h
  obtain ⟨hi6, h⟩ := h
  refine mx_iaload hC ht5 hi6 dX12_carry_84 ?_
  refine mx_iconst (v := 1) hC dX12_carry_85 (by decide) ?_
  refine mx_icmpne (tgt := 94) hC dX12_carry_86 (by decide) (fun hc7 => ?_) (fun hc7 => ?_)
  · replace h := mj_nn hc7 h
    refine mx_sub (L' := [(0, vR l0), (1, vI l1)]) [0, 1] rfl ?_
    exact show mj_X g 94 [(0, vR l0), (1, vI l1)] [] M 0 0 from (xb_X12_carry_94 hC hE l0 l1 M h)
  · replace h := mj_yy hc7 h
    refine mx_aload_n (j := 0) hC dX12_carry_89 rfl rfl ?_
    refine mx_iload_n (j := 2) hC dX12_carry_90 rfl rfl ?_
    refine mx_callV (inj := mj_jV) (As := [vI l2]) (st := []) hC (ct_X12_buy l0 l2 M _ h) ty_X12_buy tw1657 ht4 rfl (Nat.le_of_ble_eq_true rfl) ⟨rfl, rfl, ⟨by decide, by decide⟩, by decide, by decide⟩ dX12_carry_91 (fun _ M8 h => ?_)
    show mj_X g 94 [(0, vR l0), (1, vI l1), (2, vI l2)] [] M8 0 0
    refine mx_sub (L' := [(0, vR l0), (1, vI l1)]) [0, 1] rfl ?_
    exact show mj_X g 94 [(0, vR l0), (1, vI l1)] [] M8 0 0 from (xb_X12_carry_94 hC hE l0 l1 M8 h)
set_option maxHeartbeats 4000000 in
set_option maxRecDepth 100000 in
theorem xb_X12_carry_59 {g : mj_G} {post : Int32 → mj_M → Prop} (hC : mj_C g yX12_carry cX12_carry 3 (some .int) rm_X12_carry) (hE : mj_E g mj_jI post 0 0) (l0 : Nat) (l1 : Int32) (l2 : Int32) (M : mj_M) (h : vb_X12_carry_59 post l0 l1 l2 M) : mj_X g 59 [(0, vR l0), (1, vI l1), (2, vI l2)] [] M 0 0 := by
  simp only [vb_X12_carry_59] at h
  refine mx_aload_n (j := 0) hC dX12_carry_59 rfl rfl ?_
  obtain ⟨ht9, h⟩ := h
  refine mx_get (v := vR (mj_r M l0 26)) hC tf_X12_77 ht9 rfl dX12_carry_60 ?_
  refine mx_iload_n (j := 1) hC dX12_carry_63 rfl rfl ?_
  obtain ⟨ht10, h⟩ := h
  obtain ⟨hi11, h⟩ := h
  refine mx_iaload hC ht10 hi11 dX12_carry_64 ?_
  refine mx_ifne (tgt := 79) hC dX12_carry_65 (by decide) (fun hc12 => ?_) (fun hc12 => ?_)
  · replace h := mj_nn hc12 h
    refine mx_sub (L' := [(0, vR l0), (1, vI l1), (2, vI l2)]) [0, 1, 2] rfl ?_
    exact show mj_X g 79 [(0, vR l0), (1, vI l1), (2, vI l2)] [] M 0 0 from (xb_X12_carry_79 hC hE l0 l1 l2 M h)
  · replace h := mj_yy hc12 h
    refine mx_aload_n (j := 0) hC dX12_carry_68 rfl rfl ?_
    refine mx_iload_n (j := 2) hC dX12_carry_69 rfl rfl ?_
    refine mx_callV (inj := mj_jB) (As := [vI l2]) (st := []) hC (ct_X12_longer l0 l2 M _ h) ty_X12_longer tw1644 ht9 rfl (Nat.le_of_ble_eq_true rfl) ⟨rfl, rfl, ⟨by decide, by decide⟩, by decide, by decide⟩ dX12_carry_70 (fun r13 M14 h => ?_)
    show mj_X g 73 [(0, vR l0), (1, vI l1), (2, vI l2)] [vI (mj_b r13)] M14 0 0
    refine mx_ifneB (tgt := 79) hC dX12_carry_73 (by decide) (fun hc15 => ?_) (fun hc15 => ?_)
    · replace h := mj_yy hc15 h
      refine mx_sub (L' := [(0, vR l0), (1, vI l1), (2, vI l2)]) [0, 1, 2] rfl ?_
      exact show mj_X g 79 [(0, vR l0), (1, vI l1), (2, vI l2)] [] M14 0 0 from (xb_X12_carry_79 hC hE l0 l1 l2 M14 h)
    · replace h := mj_nn hc15 h
      refine mx_bipush (v := (-5)) hC dX12_carry_76 (by decide) ?_
      exact mx_iret hC hE rfl dX12_carry_78 h
set_option maxHeartbeats 4000000 in
set_option maxRecDepth 100000 in
theorem ct_X12_carry {l : Launch} {base : Nat} {D : va_G} {A : ClassId × ClassId × ClassId} (l0 : Nat) (l1 : Int32) (M : mj_M) (post : Int32 → mj_M → Prop) (h : vc_X12_carry l0 l1 M post) : mj_Met l base D A mj_jI yX12_carry cX12_carry 3 (some .int) rm_X12_carry 0 0 [vR l0, vI l1] M post := by
  refine mj_entry (by decide +kernel) (Nat.le_of_ble_eq_true rfl) (fun g hC hE h1 h2 h3 h4 => ?_)
  show mj_X g 0 [(0, vR l0), (1, vI l1)] [] M 0 0
  simp only [vc_X12_carry] at h
  refine mx_aload_n (j := 0) hC dX12_carry_0 rfl rfl ?_
  refine mx_iload_n (j := 1) hC dX12_carry_1 rfl rfl ?_
  obtain ⟨ht16, h⟩ := h
  refine mx_callV (inj := mj_jB) (As := [vI l1]) (st := []) hC (ct_X12_isNotice l0 l1 M _ h) ty_X12_isNotice tw1620 ht16 rfl (Nat.le_of_ble_eq_true rfl) ⟨rfl, rfl, ⟨by decide, by decide⟩, by decide, by decide⟩ dX12_carry_2 (fun r17 M18 h => ?_)
  show mj_X g 5 [(0, vR l0), (1, vI l1)] [vI (mj_b r17)] M18 0 0
  refine mx_ifneB (tgt := 10) hC dX12_carry_5 (by decide) (fun hc19 => ?_) (fun hc19 => ?_)
  · replace h := mj_yy hc19 h
    refine mx_aload_n (j := 0) hC dX12_carry_10 rfl rfl ?_
    obtain ⟨ht20, h⟩ := h
    refine mx_get (v := vR (mj_r M18 l0 25)) hC tf_X12_74 ht20 rfl dX12_carry_11 ?_
    refine mx_iload_n (j := 1) hC dX12_carry_14 rfl rfl ?_
    obtain ⟨ht21, h⟩ := h
    obtain ⟨hi22, h⟩ := h
    refine mx_iaload hC ht21 hi22 dX12_carry_15 ?_
    refine mx_istore_n (L' := [(2, vI (mj_i M18 (mj_r M18 l0 25) (l1 : Int32).toNatClampNeg)), (0, vR l0), (1, vI l1)]) hC dX12_carry_16 rfl (by decide) rfl ?_
    refine mx_aload_n (j := 1) hC dX12_carry_17 rfl rfl ?_
    refine mx_iload_n (j := 2) hC dX12_carry_18 rfl rfl ?_
    refine mx_callV (inj := mj_jI) (As := [vI l1]) (st := []) hC (ct_X12_statusOf l0 l1 M18 _ h) ty_X12_statusOf tw1612 ht20 rfl (Nat.le_of_ble_eq_true rfl) ⟨rfl, rfl, ⟨by decide, by decide⟩, by decide, by decide⟩ dX12_carry_19 (fun r23 M24 h => ?_)
    show mj_X g 22 [(2, vI (mj_i M18 (mj_r M18 l0 25) (l1 : Int32).toNatClampNeg)), (0, vR l0), (1, vI l1)] [vI r23] M24 0 0
    refine mx_iconst (v := 1) hC dX12_carry_22 (by decide) ?_
    refine mx_icmpne (tgt := 38) hC dX12_carry_23 (by decide) (fun hc25 => ?_) (fun hc25 => ?_)
    · replace h := mj_nn hc25 h
      refine mx_bipush (v := (-3)) hC dX12_carry_38 (by decide) ?_
      exact mx_iret hC hE rfl dX12_carry_40 h
    · replace h := mj_yy hc25 h
      refine mx_aload_n (j := 1) hC dX12_carry_26 rfl rfl ?_
      refine mx_iload_n (j := 0) hC dX12_carry_27 rfl rfl ?_
      refine mx_aload_n (j := 1) hC dX12_carry_28 rfl rfl ?_
      obtain ⟨ht26, h⟩ := h
      refine mx_get (v := vI (mj_i M24 l0 0)) hC tf_X12_151 ht26 rfl dX12_carry_29 ?_
      refine mx_callV (inj := mj_jB) (As := [vI (mj_i M18 (mj_r M18 l0 25) (l1 : Int32).toNatClampNeg), vI (mj_i M24 l0 0)]) (st := []) hC (ct_X12_isOn l0 (mj_i M18 (mj_r M18 l0 25) (l1 : Int32).toNatClampNeg) (mj_i M24 l0 0) M24 _ h) ty_X12_isOn tw1440 ht26 rfl (Nat.le_of_ble_eq_true rfl) ⟨rfl, rfl, ⟨by decide, by decide⟩, by decide, by decide⟩ dX12_carry_32 (fun r27 M28 h => ?_)
      show mj_X g 35 [(2, vI (mj_i M18 (mj_r M18 l0 25) (l1 : Int32).toNatClampNeg)), (0, vR l0), (1, vI l1)] [vI (mj_b r27)] M28 0 0
      refine mx_ifneB (tgt := 41) hC dX12_carry_35 (by decide) (fun hc29 => ?_) (fun hc29 => ?_)
      · replace h := mj_yy hc29 h
        refine mx_aload_n (j := 1) hC dX12_carry_41 rfl rfl ?_
        obtain ⟨ht30, h⟩ := h
        refine mx_get (v := vR (mj_r M28 l0 26)) hC tf_X12_77 ht30 rfl dX12_carry_42 ?_
        refine mx_iload_n (j := 2) hC dX12_carry_45 rfl rfl ?_
        obtain ⟨ht31, h⟩ := h
        obtain ⟨hi32, h⟩ := h
        refine mx_iaload hC ht31 hi32 dX12_carry_46 ?_
        refine mx_iconst (v := 1) hC dX12_carry_47 (by decide) ?_
        refine mx_icmpne (tgt := 59) hC dX12_carry_48 (by decide) (fun hc33 => ?_) (fun hc33 => ?_)
        · replace h := mj_nn hc33 h
          refine mx_sub (L' := [(0, vR l0), (1, vI l1), (2, vI (mj_i M18 (mj_r M18 l0 25) (l1 : Int32).toNatClampNeg))]) [1, 2, 0] rfl ?_
          exact show mj_X g 59 [(0, vR l0), (1, vI l1), (2, vI (mj_i M18 (mj_r M18 l0 25) (l1 : Int32).toNatClampNeg))] [] M28 0 0 from (xb_X12_carry_59 hC hE l0 l1 (mj_i M18 (mj_r M18 l0 25) (l1 : Int32).toNatClampNeg) M28 h)
        · replace h := mj_yy hc33 h
          refine mx_aload_n (j := 1) hC dX12_carry_51 rfl rfl ?_
          refine mx_iload_n (j := 0) hC dX12_carry_52 rfl rfl ?_
          refine mx_callV (inj := mj_jB) (As := [vI (mj_i M18 (mj_r M18 l0 25) (l1 : Int32).toNatClampNeg)]) (st := []) hC (ct_X12_hasAll l0 (mj_i M18 (mj_r M18 l0 25) (l1 : Int32).toNatClampNeg) M28 _ h) ty_X12_hasAll tw1640 ht30 rfl (Nat.le_of_ble_eq_true rfl) ⟨rfl, rfl, ⟨by decide, by decide⟩, by decide, by decide⟩ dX12_carry_53 (fun r34 M35 h => ?_)
          show mj_X g 56 [(2, vI (mj_i M18 (mj_r M18 l0 25) (l1 : Int32).toNatClampNeg)), (0, vR l0), (1, vI l1)] [vI (mj_b r34)] M35 0 0
          refine mx_ifeqB (tgt := 76) hC dX12_carry_56 (by decide) (fun hc36 => ?_) (fun hc36 => ?_)
          · replace h := mj_nn hc36 h
            refine mx_bipush (v := (-5)) hC dX12_carry_76 (by decide) ?_
            exact mx_iret hC hE rfl dX12_carry_78 h
          · replace h := mj_yy hc36 h
            refine mx_sub (L' := [(0, vR l0), (1, vI l1), (2, vI (mj_i M18 (mj_r M18 l0 25) (l1 : Int32).toNatClampNeg))]) [1, 2, 0] rfl ?_
            exact show mj_X g 59 [(0, vR l0), (1, vI l1), (2, vI (mj_i M18 (mj_r M18 l0 25) (l1 : Int32).toNatClampNeg))] [] M35 0 0 from (xb_X12_carry_59 hC hE l0 l1 (mj_i M18 (mj_r M18 l0 25) (l1 : Int32).toNatClampNeg) M35 h)
      · replace h := mj_nn hc29 h
        refine mx_bipush (v := (-3)) hC dX12_carry_38 (by decide) ?_
        exact mx_iret hC hE rfl dX12_carry_40 h
  · replace h := mj_nn hc19 h
    refine mx_iconst (v := (-1)) hC dX12_carry_8 (by decide) ?_
    exact mx_iret hC hE rfl dX12_carry_9 h
def rm_X12_stay : Room := { frames := 6, cells := 0, slots := 0, locals := 145 }
theorem dX12_stay_0 : decode cX12_stay 0 = .ok (.aload_n 0, 1) := by decide +kernel
theorem dX12_stay_1 : decode cX12_stay 1 = .ok (.iload_n 1, 1) := by decide +kernel
theorem dX12_stay_2 : decode cX12_stay 2 = .ok (.invokevirtual 191, 3) := by decide +kernel
theorem dX12_stay_5 : decode cX12_stay 5 = .ok (.ifCond .ne 5, 3) := by decide +kernel
theorem dX12_stay_8 : decode cX12_stay 8 = .ok (.iconst (-1), 1) := by decide +kernel
theorem dX12_stay_9 : decode cX12_stay 9 = .ok (.ireturn, 1) := by decide +kernel
theorem dX12_stay_10 : decode cX12_stay 10 = .ok (.aload_n 0, 1) := by decide +kernel
theorem dX12_stay_11 : decode cX12_stay 11 = .ok (.getfield 25, 3) := by decide +kernel
theorem dX12_stay_14 : decode cX12_stay 14 = .ok (.iload_n 1, 1) := by decide +kernel
theorem dX12_stay_15 : decode cX12_stay 15 = .ok (.iaload, 1) := by decide +kernel
theorem dX12_stay_16 : decode cX12_stay 16 = .ok (.ifCond .gt 16, 3) := by decide +kernel
theorem dX12_stay_19 : decode cX12_stay 19 = .ok (.aload_n 0, 1) := by decide +kernel
theorem dX12_stay_20 : decode cX12_stay 20 = .ok (.getfield 151, 3) := by decide +kernel
theorem dX12_stay_23 : decode cX12_stay 23 = .ok (.aload_n 0, 1) := by decide +kernel
theorem dX12_stay_24 : decode cX12_stay 24 = .ok (.getfield 19, 3) := by decide +kernel
theorem dX12_stay_27 : decode cX12_stay 27 = .ok (.iload_n 1, 1) := by decide +kernel
theorem dX12_stay_28 : decode cX12_stay 28 = .ok (.iaload, 1) := by decide +kernel
theorem dX12_stay_29 : decode cX12_stay 29 = .ok (.if_icmp .le 6, 3) := by decide +kernel
theorem dX12_stay_32 : decode cX12_stay 32 = .ok (.bipush (-3), 2) := by decide +kernel
theorem dX12_stay_34 : decode cX12_stay 34 = .ok (.ireturn, 1) := by decide +kernel
theorem dX12_stay_35 : decode cX12_stay 35 = .ok (.aload_n 0, 1) := by decide +kernel
theorem dX12_stay_36 : decode cX12_stay 36 = .ok (.iload_n 1, 1) := by decide +kernel
theorem dX12_stay_37 : decode cX12_stay 37 = .ok (.iconst 2, 1) := by decide +kernel
theorem dX12_stay_38 : decode cX12_stay 38 = .ok (.aload_n 0, 1) := by decide +kernel
theorem dX12_stay_39 : decode cX12_stay 39 = .ok (.getfield 19, 3) := by decide +kernel
theorem dX12_stay_42 : decode cX12_stay 42 = .ok (.iload_n 1, 1) := by decide +kernel
theorem dX12_stay_43 : decode cX12_stay 43 = .ok (.iaload, 1) := by decide +kernel
theorem dX12_stay_44 : decode cX12_stay 44 = .ok (.iconst 1, 1) := by decide +kernel
theorem dX12_stay_45 : decode cX12_stay 45 = .ok (.isub, 1) := by decide +kernel
theorem dX12_stay_46 : decode cX12_stay 46 = .ok (.invokevirtual 287, 3) := by decide +kernel
theorem dX12_stay_49 : decode cX12_stay 49 = .ok (.iconst 1, 1) := by decide +kernel
theorem dX12_stay_50 : decode cX12_stay 50 = .ok (.if_icmp .eq 6, 3) := by decide +kernel
theorem dX12_stay_53 : decode cX12_stay 53 = .ok (.bipush (-5), 2) := by decide +kernel
theorem dX12_stay_55 : decode cX12_stay 55 = .ok (.ireturn, 1) := by decide +kernel
theorem dX12_stay_56 : decode cX12_stay 56 = .ok (.aload_n 0, 1) := by decide +kernel
theorem dX12_stay_57 : decode cX12_stay 57 = .ok (.aload_n 0, 1) := by decide +kernel
theorem dX12_stay_58 : decode cX12_stay 58 = .ok (.getfield 7, 3) := by decide +kernel
theorem dX12_stay_61 : decode cX12_stay 61 = .ok (.iload_n 1, 1) := by decide +kernel
theorem dX12_stay_62 : decode cX12_stay 62 = .ok (.iaload, 1) := by decide +kernel
theorem dX12_stay_63 : decode cX12_stay 63 = .ok (.invokevirtual 147, 3) := by decide +kernel
theorem dX12_stay_66 : decode cX12_stay 66 = .ok (.istore_n 2, 1) := by decide +kernel
theorem dX12_stay_67 : decode cX12_stay 67 = .ok (.aload_n 0, 1) := by decide +kernel
theorem dX12_stay_68 : decode cX12_stay 68 = .ok (.iload_n 1, 1) := by decide +kernel
theorem dX12_stay_69 : decode cX12_stay 69 = .ok (.aload_n 0, 1) := by decide +kernel
theorem dX12_stay_70 : decode cX12_stay 70 = .ok (.getfield 19, 3) := by decide +kernel
theorem dX12_stay_73 : decode cX12_stay 73 = .ok (.iload_n 1, 1) := by decide +kernel
theorem dX12_stay_74 : decode cX12_stay 74 = .ok (.iaload, 1) := by decide +kernel
theorem dX12_stay_75 : decode cX12_stay 75 = .ok (.iload_n 2, 1) := by decide +kernel
theorem dX12_stay_76 : decode cX12_stay 76 = .ok (.invokevirtual 302, 3) := by decide +kernel
theorem dX12_stay_79 : decode cX12_stay 79 = .ok (.ifCond .eq 6, 3) := by decide +kernel
theorem dX12_stay_82 : decode cX12_stay 82 = .ok (.bipush (-5), 2) := by decide +kernel
theorem dX12_stay_84 : decode cX12_stay 84 = .ok (.ireturn, 1) := by decide +kernel
theorem dX12_stay_85 : decode cX12_stay 85 = .ok (.iload_n 2, 1) := by decide +kernel
theorem dX12_stay_86 : decode cX12_stay 86 = .ok (.aload_n 0, 1) := by decide +kernel
theorem dX12_stay_87 : decode cX12_stay 87 = .ok (.getfield 19, 3) := by decide +kernel
theorem dX12_stay_90 : decode cX12_stay 90 = .ok (.iload_n 1, 1) := by decide +kernel
theorem dX12_stay_91 : decode cX12_stay 91 = .ok (.iaload, 1) := by decide +kernel
theorem dX12_stay_92 : decode cX12_stay 92 = .ok (.isub, 1) := by decide +kernel
theorem dX12_stay_93 : decode cX12_stay 93 = .ok (.istore_n 3, 1) := by decide +kernel
theorem dX12_stay_94 : decode cX12_stay 94 = .ok (.aload_n 0, 1) := by decide +kernel
theorem dX12_stay_95 : decode cX12_stay 95 = .ok (.getfield 19, 3) := by decide +kernel
theorem dX12_stay_98 : decode cX12_stay 98 = .ok (.iload_n 1, 1) := by decide +kernel
theorem dX12_stay_99 : decode cX12_stay 99 = .ok (.dup2, 1) := by decide +kernel
theorem dX12_stay_100 : decode cX12_stay 100 = .ok (.iaload, 1) := by decide +kernel
theorem dX12_stay_101 : decode cX12_stay 101 = .ok (.iload_n 3, 1) := by decide +kernel
theorem dX12_stay_102 : decode cX12_stay 102 = .ok (.iadd, 1) := by decide +kernel
theorem dX12_stay_103 : decode cX12_stay 103 = .ok (.iastore, 1) := by decide +kernel
theorem dX12_stay_104 : decode cX12_stay 104 = .ok (.iload_n 3, 1) := by decide +kernel
theorem dX12_stay_105 : decode cX12_stay 105 = .ok (.ireturn, 1) := by decide +kernel
def vc_X12_stay (l0 : Nat) (l1 : Int32) (M : mj_M) (post : Int32 → mj_M → Prop) : Prop := mj_tag M l0 = 13 ∧ vc_X12_isLease l0 l1 M (fun r2 M3 => if r2 = true then (mj_tag M3 l0 = 13 ∧ mj_tag M3 (mj_r M3 l0 6) = 101 ∧ vp_in l1 (mj_len M3 (mj_r M3 l0 6)) ∧ if 0 < (mj_i M3 (mj_r M3 l0 6) (l1 : Int32).toNatClampNeg) then (post ((-3)) M3) else (mj_tag M3 (mj_r M3 l0 4) = 101 ∧ vp_in l1 (mj_len M3 (mj_r M3 l0 4)) ∧ if (mj_i M3 l0 0) ≤ (mj_i M3 (mj_r M3 l0 4) (l1 : Int32).toNatClampNeg) then (vc_X12_rightOn l0 l1 2 ((mj_i M3 (mj_r M3 l0 4) (l1 : Int32).toNatClampNeg) - 1) M3 (fun r12 M13 => if r12 = 1 then (mj_tag M13 l0 = 13 ∧ mj_tag M13 (mj_r M13 l0 1) = 101 ∧ vp_in l1 (mj_len M13 (mj_r M13 l0 1)) ∧ vc_X12_until l0 (mj_i M13 (mj_r M13 l0 1) (l1 : Int32).toNatClampNeg) M13 (fun r18 M19 => mj_tag M19 l0 = 13 ∧ mj_tag M19 (mj_r M19 l0 4) = 101 ∧ vp_in l1 (mj_len M19 (mj_r M19 l0 4)) ∧ vc_X12_isBarred l0 l1 (mj_i M19 (mj_r M19 l0 4) (l1 : Int32).toNatClampNeg) r18 M19 (fun r23 M24 => if r23 = true then (post ((-5)) M24) else (mj_tag M24 l0 = 13 ∧ mj_tag M24 (mj_r M24 l0 4) = 101 ∧ vp_in l1 (mj_len M24 (mj_r M24 l0 4)) ∧ post (r18 - (mj_i M24 (mj_r M24 l0 4) (l1 : Int32).toNatClampNeg)) (mj_wi M24 (mj_r M24 l0 4) (l1 : Int32).toNatClampNeg ((mj_i M24 (mj_r M24 l0 4) (l1 : Int32).toNatClampNeg) + (r18 - (mj_i M24 (mj_r M24 l0 4) (l1 : Int32).toNatClampNeg)))))))) else (post ((-5)) M13))) else (post ((-3)) M3))) else (post ((-1)) M3))
set_option maxHeartbeats 4000000 in
set_option maxRecDepth 100000 in
theorem ct_X12_stay {l : Launch} {base : Nat} {D : va_G} {A : ClassId × ClassId × ClassId} (l0 : Nat) (l1 : Int32) (M : mj_M) (post : Int32 → mj_M → Prop) (h : vc_X12_stay l0 l1 M post) : mj_Met l base D A mj_jI yX12_stay cX12_stay 4 (some .int) rm_X12_stay 0 0 [vR l0, vI l1] M post := by
  refine mj_entry (by decide +kernel) (Nat.le_of_ble_eq_true rfl) (fun g hC hE h1 h2 h3 h4 => ?_)
  show mj_X g 0 [(0, vR l0), (1, vI l1)] [] M 0 0
  simp only [vc_X12_stay] at h
  refine mx_aload_n (j := 0) hC dX12_stay_0 rfl rfl ?_
  refine mx_iload_n (j := 1) hC dX12_stay_1 rfl rfl ?_
  obtain ⟨ht1, h⟩ := h
  refine mx_callV (inj := mj_jB) (As := [vI l1]) (st := []) hC (ct_X12_isLease l0 l1 M _ h) ty_X12_isLease tw1448 ht1 rfl (Nat.le_of_ble_eq_true rfl) ⟨rfl, rfl, ⟨by decide, by decide⟩, by decide, by decide⟩ dX12_stay_2 (fun r2 M3 h => ?_)
  show mj_X g 5 [(0, vR l0), (1, vI l1)] [vI (mj_b r2)] M3 0 0
  refine mx_ifneB (tgt := 10) hC dX12_stay_5 (by decide) (fun hc4 => ?_) (fun hc4 => ?_)
  · replace h := mj_yy hc4 h
    refine mx_aload_n (j := 0) hC dX12_stay_10 rfl rfl ?_
    obtain ⟨ht5, h⟩ := h
    refine mx_get (v := vR (mj_r M3 l0 6)) hC tf_X12_25 ht5 rfl dX12_stay_11 ?_
    refine mx_iload_n (j := 1) hC dX12_stay_14 rfl rfl ?_
    obtain ⟨ht6, h⟩ := h
    obtain ⟨hi7, h⟩ := h
    refine mx_iaload hC ht6 hi7 dX12_stay_15 ?_
    refine mx_ifgt (tgt := 32) hC dX12_stay_16 (by decide) (fun hc8 => ?_) (fun hc8 => ?_)
    · replace h := mj_yy hc8 h
      refine mx_bipush (v := (-3)) hC dX12_stay_32 (by decide) ?_
      exact mx_iret hC hE rfl dX12_stay_34 h
    · replace h := mj_nn hc8 h
      refine mx_aload_n (j := 0) hC dX12_stay_19 rfl rfl ?_
      refine mx_get (v := vI (mj_i M3 l0 0)) hC tf_X12_151 ht5 rfl dX12_stay_20 ?_
      refine mx_aload_n (j := 0) hC dX12_stay_23 rfl rfl ?_
      refine mx_get (v := vR (mj_r M3 l0 4)) hC tf_X12_19 ht5 rfl dX12_stay_24 ?_
      refine mx_iload_n (j := 1) hC dX12_stay_27 rfl rfl ?_
      obtain ⟨ht9, h⟩ := h
      obtain ⟨hi10, h⟩ := h
      refine mx_iaload hC ht9 hi10 dX12_stay_28 ?_
      refine mx_icmple (tgt := 35) hC dX12_stay_29 (by decide) (fun hc11 => ?_) (fun hc11 => ?_)
      · replace h := mj_yy hc11 h
        refine mx_aload_n (j := 0) hC dX12_stay_35 rfl rfl ?_
        refine mx_iload_n (j := 1) hC dX12_stay_36 rfl rfl ?_
        refine mx_iconst (v := 2) hC dX12_stay_37 (by decide) ?_
        refine mx_aload_n (j := 0) hC dX12_stay_38 rfl rfl ?_
        refine mx_get (v := vR (mj_r M3 l0 4)) hC tf_X12_19 ht5 rfl dX12_stay_39 ?_
        refine mx_iload_n (j := 1) hC dX12_stay_42 rfl rfl ?_
        refine mx_iaload hC ht9 hi10 dX12_stay_43 ?_
        refine mx_iconst (v := 1) hC dX12_stay_44 (by decide) ?_
        refine mx_isub hC dX12_stay_45 ?_
        refine mx_callV (inj := mj_jI) (As := [vI l1, vI 2, vI ((mj_i M3 (mj_r M3 l0 4) (l1 : Int32).toNatClampNeg) - 1)]) (st := []) hC (ct_X12_rightOn l0 l1 2 ((mj_i M3 (mj_r M3 l0 4) (l1 : Int32).toNatClampNeg) - 1) M3 _ h) ty_X12_rightOn tw1561 ht5 rfl (Nat.le_of_ble_eq_true rfl) ⟨rfl, rfl, ⟨by decide, by decide⟩, by decide, by decide⟩ dX12_stay_46 (fun r12 M13 h => ?_)
        show mj_X g 49 [(0, vR l0), (1, vI l1)] [vI r12] M13 0 0
        refine mx_iconst (v := 1) hC dX12_stay_49 (by decide) ?_
        refine mx_icmpeq (tgt := 56) hC dX12_stay_50 (by decide) (fun hc14 => ?_) (fun hc14 => ?_)
        · replace h := mj_yy hc14 h
          refine mx_aload_n (j := 0) hC dX12_stay_56 rfl rfl ?_
          refine mx_aload_n (j := 0) hC dX12_stay_57 rfl rfl ?_
          obtain ⟨ht15, h⟩ := h
          refine mx_get (v := vR (mj_r M13 l0 1)) hC tf_X12_7 ht15 rfl dX12_stay_58 ?_
          refine mx_iload_n (j := 1) hC dX12_stay_61 rfl rfl ?_
          obtain ⟨ht16, h⟩ := h
          obtain ⟨hi17, h⟩ := h
          refine mx_iaload hC ht16 hi17 dX12_stay_62 ?_
          refine mx_callV (inj := mj_jI) (As := [vI (mj_i M13 (mj_r M13 l0 1) (l1 : Int32).toNatClampNeg)]) (st := []) hC (ct_X12_until l0 (mj_i M13 (mj_r M13 l0 1) (l1 : Int32).toNatClampNeg) M13 _ h) ty_X12_until tw1415 ht15 rfl (Nat.le_of_ble_eq_true rfl) ⟨rfl, rfl, ⟨by decide, by decide⟩, by decide, by decide⟩ dX12_stay_63 (fun r18 M19 h => ?_)
          show mj_X g 66 [(0, vR l0), (1, vI l1)] [vI r18] M19 0 0
          refine mx_istore_n (L' := [(2, vI r18), (0, vR l0), (1, vI l1)]) hC dX12_stay_66 rfl (by decide) rfl ?_
          refine mx_aload_n (j := 1) hC dX12_stay_67 rfl rfl ?_
          refine mx_iload_n (j := 2) hC dX12_stay_68 rfl rfl ?_
          refine mx_aload_n (j := 1) hC dX12_stay_69 rfl rfl ?_
          obtain ⟨ht20, h⟩ := h
          refine mx_get (v := vR (mj_r M19 l0 4)) hC tf_X12_19 ht20 rfl dX12_stay_70 ?_
          refine mx_iload_n (j := 2) hC dX12_stay_73 rfl rfl ?_
          obtain ⟨ht21, h⟩ := h
          obtain ⟨hi22, h⟩ := h
          refine mx_iaload hC ht21 hi22 dX12_stay_74 ?_
          refine mx_iload_n (j := 0) hC dX12_stay_75 rfl rfl ?_
          refine mx_callV (inj := mj_jB) (As := [vI l1, vI (mj_i M19 (mj_r M19 l0 4) (l1 : Int32).toNatClampNeg), vI r18]) (st := []) hC (ct_X12_isBarred l0 l1 (mj_i M19 (mj_r M19 l0 4) (l1 : Int32).toNatClampNeg) r18 M19 _ h) ty_X12_isBarred tw1653 ht20 rfl (Nat.le_of_ble_eq_true rfl) ⟨rfl, rfl, ⟨by decide, by decide⟩, by decide, by decide⟩ dX12_stay_76 (fun r23 M24 h => ?_)
          show mj_X g 79 [(2, vI r18), (0, vR l0), (1, vI l1)] [vI (mj_b r23)] M24 0 0
          refine mx_ifeqB (tgt := 85) hC dX12_stay_79 (by decide) (fun hc25 => ?_) (fun hc25 => ?_)
          · replace h := mj_nn hc25 h
            refine mx_iload_n (j := 0) hC dX12_stay_85 rfl rfl ?_
            refine mx_aload_n (j := 1) hC dX12_stay_86 rfl rfl ?_
            obtain ⟨ht26, h⟩ := h
            refine mx_get (v := vR (mj_r M24 l0 4)) hC tf_X12_19 ht26 rfl dX12_stay_87 ?_
            refine mx_iload_n (j := 2) hC dX12_stay_90 rfl rfl ?_
            obtain ⟨ht27, h⟩ := h
            obtain ⟨hi28, h⟩ := h
            refine mx_iaload hC ht27 hi28 dX12_stay_91 ?_
            refine mx_isub hC dX12_stay_92 ?_
            refine mx_istore_n (L' := [(3, vI (r18 - (mj_i M24 (mj_r M24 l0 4) (l1 : Int32).toNatClampNeg))), (2, vI r18), (0, vR l0), (1, vI l1)]) hC dX12_stay_93 rfl (by decide) rfl ?_
            refine mx_aload_n (j := 2) hC dX12_stay_94 rfl rfl ?_
            refine mx_get (v := vR (mj_r M24 l0 4)) hC tf_X12_19 ht26 rfl dX12_stay_95 ?_
            refine mx_iload_n (j := 3) hC dX12_stay_98 rfl rfl ?_
            refine mx_dup2 hC dX12_stay_99 rfl rfl ?_
            refine mx_iaload hC ht27 hi28 dX12_stay_100 ?_
            refine mx_iload_n (j := 0) hC dX12_stay_101 rfl rfl ?_
            refine mx_iadd hC dX12_stay_102 ?_
            refine mx_iastore hC ht27 hi28 dX12_stay_103 ?_
            refine mx_iload_n (j := 0) hC dX12_stay_104 rfl rfl ?_
            exact mx_iret hC hE rfl dX12_stay_105 h
          · replace h := mj_yy hc25 h
            refine mx_bipush (v := (-5)) hC dX12_stay_82 (by decide) ?_
            exact mx_iret hC hE rfl dX12_stay_84 h
        · replace h := mj_nn hc14 h
          refine mx_bipush (v := (-5)) hC dX12_stay_53 (by decide) ?_
          exact mx_iret hC hE rfl dX12_stay_55 h
      · replace h := mj_nn hc11 h
        refine mx_bipush (v := (-3)) hC dX12_stay_32 (by decide) ?_
        exact mx_iret hC hE rfl dX12_stay_34 h
  · replace h := mj_nn hc4 h
    refine mx_iconst (v := (-1)) hC dX12_stay_8 (by decide) ?_
    exact mx_iret hC hE rfl dX12_stay_9 h
theorem tw1681 : (Jvm.Cond.constantLong "LeaseLandModel" (328 : Nat) (1000000 : Int64)) ∈ mj_tbl := mj_w 1734 (by decide +kernel) (by decide +kernel)
def rm_X12_value : Room := { frames := 2, cells := 0, slots := 0, locals := 45 }
theorem dX12_value_0 : decode cX12_value 0 = .ok (.iload_n 1, 1) := by decide +kernel
theorem dX12_value_1 : decode cX12_value 1 = .ok (.invokestatic 209, 3) := by decide +kernel
theorem dX12_value_4 : decode cX12_value 4 = .ok (.ifCond .ne 5, 3) := by decide +kernel
theorem dX12_value_7 : decode cX12_value 7 = .ok (.iconst (-1), 1) := by decide +kernel
theorem dX12_value_8 : decode cX12_value 8 = .ok (.ireturn, 1) := by decide +kernel
theorem dX12_value_9 : decode cX12_value 9 = .ok (.iload_n 2, 1) := by decide +kernel
theorem dX12_value_10 : decode cX12_value 10 = .ok (.i2l, 1) := by decide +kernel
theorem dX12_value_11 : decode cX12_value 11 = .ok (.lconst 0, 1) := by decide +kernel
theorem dX12_value_12 : decode cX12_value 12 = .ok (.ldc2_w 328, 3) := by decide +kernel
theorem dX12_value_15 : decode cX12_value 15 = .ok (.invokestatic 133, 3) := by decide +kernel
theorem dX12_value_18 : decode cX12_value 18 = .ok (.ifCond .ne 6, 3) := by decide +kernel
theorem dX12_value_21 : decode cX12_value 21 = .ok (.bipush (-2), 2) := by decide +kernel
theorem dX12_value_23 : decode cX12_value 23 = .ok (.ireturn, 1) := by decide +kernel
theorem dX12_value_24 : decode cX12_value 24 = .ok (.aload_n 0, 1) := by decide +kernel
theorem dX12_value_25 : decode cX12_value 25 = .ok (.getfield 92, 3) := by decide +kernel
theorem dX12_value_28 : decode cX12_value 28 = .ok (.iload_n 1, 1) := by decide +kernel
theorem dX12_value_29 : decode cX12_value 29 = .ok (.iaload, 1) := by decide +kernel
theorem dX12_value_30 : decode cX12_value 30 = .ok (.istore_n 3, 1) := by decide +kernel
theorem dX12_value_31 : decode cX12_value 31 = .ok (.aload_n 0, 1) := by decide +kernel
theorem dX12_value_32 : decode cX12_value 32 = .ok (.getfield 92, 3) := by decide +kernel
theorem dX12_value_35 : decode cX12_value 35 = .ok (.iload_n 1, 1) := by decide +kernel
theorem dX12_value_36 : decode cX12_value 36 = .ok (.iload_n 2, 1) := by decide +kernel
theorem dX12_value_37 : decode cX12_value 37 = .ok (.iastore, 1) := by decide +kernel
theorem dX12_value_38 : decode cX12_value 38 = .ok (.iload_n 3, 1) := by decide +kernel
theorem dX12_value_39 : decode cX12_value 39 = .ok (.ireturn, 1) := by decide +kernel
def vc_X12_value (l0 : Nat) (l1 : Int32) (l2 : Int32) (M : mj_M) (post : Int32 → mj_M → Prop) : Prop := vc_X12_isFloor l1 M (fun r1 M2 => if r1 = true then (vc_X12_in ((l2 : Int32).toInt64) 0 1000000 M2 (fun r4 M5 => if r4 = true then (mj_tag M5 l0 = 13 ∧ mj_tag M5 (mj_r M5 l0 32) = 101 ∧ vp_in l1 (mj_len M5 (mj_r M5 l0 32)) ∧ post (mj_i M5 (mj_r M5 l0 32) (l1 : Int32).toNatClampNeg) (mj_wi M5 (mj_r M5 l0 32) (l1 : Int32).toNatClampNeg l2)) else (post ((-2)) M5))) else (post ((-1)) M2))
set_option maxHeartbeats 4000000 in
set_option maxRecDepth 100000 in
theorem ct_X12_value {l : Launch} {base : Nat} {D : va_G} {A : ClassId × ClassId × ClassId} (l0 : Nat) (l1 : Int32) (l2 : Int32) (M : mj_M) (post : Int32 → mj_M → Prop) (h : vc_X12_value l0 l1 l2 M post) : mj_Met l base D A mj_jI yX12_value cX12_value 4 (some .int) rm_X12_value 0 0 [vR l0, vI l1, vI l2] M post := by
  refine mj_entry (by decide +kernel) (Nat.le_of_ble_eq_true rfl) (fun g hC hE h1 h2 h3 h4 => ?_)
  show mj_X g 0 [(0, vR l0), (1, vI l1), (2, vI l2)] [] M 0 0
  simp only [vc_X12_value] at h
  refine mx_iload_n (j := 1) hC dX12_value_0 rfl rfl ?_
  refine mx_callS (inj := mj_jB) (As := [vI l1]) (st := []) hC (ct_X12_isFloor l1 M _ h) ty_X12_isFloor tw1480 rfl (Nat.le_of_ble_eq_true rfl) ⟨rfl, rfl, ⟨by decide, by decide⟩, by decide, by decide⟩ dX12_value_1 (fun r1 M2 h => ?_)
  show mj_X g 4 [(0, vR l0), (1, vI l1), (2, vI l2)] [vI (mj_b r1)] M2 0 0
  refine mx_ifneB (tgt := 9) hC dX12_value_4 (by decide) (fun hc3 => ?_) (fun hc3 => ?_)
  · replace h := mj_yy hc3 h
    refine mx_iload_n (j := 2) hC dX12_value_9 rfl rfl ?_
    refine mx_i2l hC dX12_value_10 ?_
    refine mx_lconst (v := 0) hC dX12_value_11 (by decide) ?_
    refine mx_ldc2 (v := 1000000) hC dX12_value_12 tw1681 ?_
    refine mx_callS (inj := mj_jB) (As := [vL ((l2 : Int32).toInt64), vL 0, vL 1000000]) (st := []) hC (ct_X12_in ((l2 : Int32).toInt64) 0 1000000 M2 _ h) ty_X12_in tw1379 rfl (Nat.le_of_ble_eq_true rfl) ⟨rfl, rfl, ⟨by decide, by decide⟩, by decide, by decide⟩ dX12_value_15 (fun r4 M5 h => ?_)
    show mj_X g 18 [(0, vR l0), (1, vI l1), (2, vI l2)] [vI (mj_b r4)] M5 0 0
    refine mx_ifneB (tgt := 24) hC dX12_value_18 (by decide) (fun hc6 => ?_) (fun hc6 => ?_)
    · replace h := mj_yy hc6 h
      refine mx_aload_n (j := 0) hC dX12_value_24 rfl rfl ?_
      obtain ⟨ht7, h⟩ := h
      refine mx_get (v := vR (mj_r M5 l0 32)) hC tf_X12_92 ht7 rfl dX12_value_25 ?_
      refine mx_iload_n (j := 1) hC dX12_value_28 rfl rfl ?_
      obtain ⟨ht8, h⟩ := h
      obtain ⟨hi9, h⟩ := h
      refine mx_iaload hC ht8 hi9 dX12_value_29 ?_
      refine mx_istore_n (L' := [(3, vI (mj_i M5 (mj_r M5 l0 32) (l1 : Int32).toNatClampNeg)), (0, vR l0), (1, vI l1), (2, vI l2)]) hC dX12_value_30 rfl (by decide) rfl ?_
      refine mx_aload_n (j := 1) hC dX12_value_31 rfl rfl ?_
      refine mx_get (v := vR (mj_r M5 l0 32)) hC tf_X12_92 ht7 rfl dX12_value_32 ?_
      refine mx_iload_n (j := 2) hC dX12_value_35 rfl rfl ?_
      refine mx_iload_n (j := 3) hC dX12_value_36 rfl rfl ?_
      refine mx_iastore hC ht8 hi9 dX12_value_37 ?_
      refine mx_iload_n (j := 0) hC dX12_value_38 rfl rfl ?_
      exact mx_iret hC hE rfl dX12_value_39 h
    · replace h := mj_nn hc6 h
      refine mx_bipush (v := (-2)) hC dX12_value_21 (by decide) ?_
      exact mx_iret hC hE rfl dX12_value_23 h
  · replace h := mj_nn hc3 h
    refine mx_iconst (v := (-1)) hC dX12_value_7 (by decide) ?_
    exact mx_iret hC hE rfl dX12_value_8 h
theorem tw1244 : (Jvm.Cond.fieldLink "LeaseLandModel" (334 : Nat) "LeaseLandModel" "points" "I") ∈ mj_tbl := mj_w 1297 (by decide +kernel) (by decide +kernel)
theorem tf_X12_334 : mj_F 12 35 .int false "LeaseLandModel" 334 := ⟨_, tk12, by decide, rfl, rfl, rfl, tw1244⟩
theorem tw1686 : (Jvm.Cond.constantLong "LeaseLandModel" (330 : Nat) (200 : Int64)) ∈ mj_tbl := mj_w 1739 (by decide +kernel) (by decide +kernel)
theorem tw1687 : (Jvm.Cond.constantLong "LeaseLandModel" (332 : Nat) (10000 : Int64)) ∈ mj_tbl := mj_w 1740 (by decide +kernel) (by decide +kernel)
def rm_X12_point : Room := { frames := 1, cells := 0, slots := 0, locals := 25 }
theorem dX12_point_0 : decode cX12_point 0 = .ok (.iload_n 1, 1) := by decide +kernel
theorem dX12_point_1 : decode cX12_point 1 = .ok (.i2l, 1) := by decide +kernel
theorem dX12_point_2 : decode cX12_point 2 = .ok (.lconst 1, 1) := by decide +kernel
theorem dX12_point_3 : decode cX12_point 3 = .ok (.ldc2_w 330, 3) := by decide +kernel
theorem dX12_point_6 : decode cX12_point 6 = .ok (.invokestatic 133, 3) := by decide +kernel
theorem dX12_point_9 : decode cX12_point 9 = .ok (.ifCond .eq 37, 3) := by decide +kernel
theorem dX12_point_12 : decode cX12_point 12 = .ok (.iload_n 2, 1) := by decide +kernel
theorem dX12_point_13 : decode cX12_point 13 = .ok (.i2l, 1) := by decide +kernel
theorem dX12_point_14 : decode cX12_point 14 = .ok (.lconst 0, 1) := by decide +kernel
theorem dX12_point_15 : decode cX12_point 15 = .ok (.ldc2_w 332, 3) := by decide +kernel
theorem dX12_point_18 : decode cX12_point 18 = .ok (.invokestatic 133, 3) := by decide +kernel
theorem dX12_point_21 : decode cX12_point 21 = .ok (.ifCond .eq 25, 3) := by decide +kernel
theorem dX12_point_24 : decode cX12_point 24 = .ok (.aload_n 0, 1) := by decide +kernel
theorem dX12_point_25 : decode cX12_point 25 = .ok (.getfield 334, 3) := by decide +kernel
theorem dX12_point_28 : decode cX12_point 28 = .ok (.ifCond .le 21, 3) := by decide +kernel
theorem dX12_point_31 : decode cX12_point 31 = .ok (.iload_n 1, 1) := by decide +kernel
theorem dX12_point_32 : decode cX12_point 32 = .ok (.aload_n 0, 1) := by decide +kernel
theorem dX12_point_33 : decode cX12_point 33 = .ok (.getfield 95, 3) := by decide +kernel
theorem dX12_point_36 : decode cX12_point 36 = .ok (.aload_n 0, 1) := by decide +kernel
theorem dX12_point_37 : decode cX12_point 37 = .ok (.getfield 334, 3) := by decide +kernel
theorem dX12_point_40 : decode cX12_point 40 = .ok (.iconst 1, 1) := by decide +kernel
theorem dX12_point_41 : decode cX12_point 41 = .ok (.isub, 1) := by decide +kernel
theorem dX12_point_42 : decode cX12_point 42 = .ok (.iaload, 1) := by decide +kernel
theorem dX12_point_43 : decode cX12_point 43 = .ok (.if_icmp .gt 6, 3) := by decide +kernel
theorem dX12_point_46 : decode cX12_point 46 = .ok (.bipush (-2), 2) := by decide +kernel
theorem dX12_point_48 : decode cX12_point 48 = .ok (.ireturn, 1) := by decide +kernel
theorem dX12_point_49 : decode cX12_point 49 = .ok (.aload_n 0, 1) := by decide +kernel
theorem dX12_point_50 : decode cX12_point 50 = .ok (.getfield 334, 3) := by decide +kernel
theorem dX12_point_53 : decode cX12_point 53 = .ok (.bipush 10, 2) := by decide +kernel
theorem dX12_point_55 : decode cX12_point 55 = .ok (.if_icmp .ne 6, 3) := by decide +kernel
theorem dX12_point_58 : decode cX12_point 58 = .ok (.bipush (-4), 2) := by decide +kernel
theorem dX12_point_60 : decode cX12_point 60 = .ok (.ireturn, 1) := by decide +kernel
theorem dX12_point_61 : decode cX12_point 61 = .ok (.aload_n 0, 1) := by decide +kernel
theorem dX12_point_62 : decode cX12_point 62 = .ok (.getfield 95, 3) := by decide +kernel
theorem dX12_point_65 : decode cX12_point 65 = .ok (.aload_n 0, 1) := by decide +kernel
theorem dX12_point_66 : decode cX12_point 66 = .ok (.getfield 334, 3) := by decide +kernel
theorem dX12_point_69 : decode cX12_point 69 = .ok (.iload_n 1, 1) := by decide +kernel
theorem dX12_point_70 : decode cX12_point 70 = .ok (.iastore, 1) := by decide +kernel
theorem dX12_point_71 : decode cX12_point 71 = .ok (.aload_n 0, 1) := by decide +kernel
theorem dX12_point_72 : decode cX12_point 72 = .ok (.getfield 98, 3) := by decide +kernel
theorem dX12_point_75 : decode cX12_point 75 = .ok (.aload_n 0, 1) := by decide +kernel
theorem dX12_point_76 : decode cX12_point 76 = .ok (.getfield 334, 3) := by decide +kernel
theorem dX12_point_79 : decode cX12_point 79 = .ok (.iload_n 2, 1) := by decide +kernel
theorem dX12_point_80 : decode cX12_point 80 = .ok (.iastore, 1) := by decide +kernel
theorem dX12_point_81 : decode cX12_point 81 = .ok (.aload_n 0, 1) := by decide +kernel
theorem dX12_point_82 : decode cX12_point 82 = .ok (.dup, 1) := by decide +kernel
theorem dX12_point_83 : decode cX12_point 83 = .ok (.getfield 334, 3) := by decide +kernel
theorem dX12_point_86 : decode cX12_point 86 = .ok (.iconst 1, 1) := by decide +kernel
theorem dX12_point_87 : decode cX12_point 87 = .ok (.iadd, 1) := by decide +kernel
theorem dX12_point_88 : decode cX12_point 88 = .ok (.putfield 334, 3) := by decide +kernel
theorem dX12_point_91 : decode cX12_point 91 = .ok (.aload_n 0, 1) := by decide +kernel
theorem dX12_point_92 : decode cX12_point 92 = .ok (.getfield 334, 3) := by decide +kernel
theorem dX12_point_95 : decode cX12_point 95 = .ok (.ireturn, 1) := by decide +kernel
def vb_X12_point_49 (post : Int32 → mj_M → Prop) (l0 : Nat) (l1 : Int32) (l2 : Int32) (M : mj_M) : Prop := mj_tag M l0 = 13 ∧ if (mj_i M l0 35) = 10 then (post ((-4)) M) else (mj_tag M (mj_r M l0 33) = 101 ∧ vp_in (mj_i M l0 35) (mj_len M (mj_r M l0 33)) ∧ mj_tag M (mj_r M l0 34) = 101 ∧ vp_in (mj_i (mj_wi M (mj_r M l0 33) (mj_i M l0 35 : Int32).toNatClampNeg l1) l0 35) (mj_len M (mj_r M l0 34)) ∧ post (mj_i (mj_wi (mj_wi (mj_wi M (mj_r M l0 33) (mj_i M l0 35 : Int32).toNatClampNeg l1) (mj_r M l0 34) (mj_i (mj_wi M (mj_r M l0 33) (mj_i M l0 35 : Int32).toNatClampNeg l1) l0 35 : Int32).toNatClampNeg l2) l0 35 ((mj_i (mj_wi (mj_wi M (mj_r M l0 33) (mj_i M l0 35 : Int32).toNatClampNeg l1) (mj_r M l0 34) (mj_i (mj_wi M (mj_r M l0 33) (mj_i M l0 35 : Int32).toNatClampNeg l1) l0 35 : Int32).toNatClampNeg l2) l0 35) + 1)) l0 35) (mj_wi (mj_wi (mj_wi M (mj_r M l0 33) (mj_i M l0 35 : Int32).toNatClampNeg l1) (mj_r M l0 34) (mj_i (mj_wi M (mj_r M l0 33) (mj_i M l0 35 : Int32).toNatClampNeg l1) l0 35 : Int32).toNatClampNeg l2) l0 35 ((mj_i (mj_wi (mj_wi M (mj_r M l0 33) (mj_i M l0 35 : Int32).toNatClampNeg l1) (mj_r M l0 34) (mj_i (mj_wi M (mj_r M l0 33) (mj_i M l0 35 : Int32).toNatClampNeg l1) l0 35 : Int32).toNatClampNeg l2) l0 35) + 1)))
def vc_X12_point (l0 : Nat) (l1 : Int32) (l2 : Int32) (M : mj_M) (post : Int32 → mj_M → Prop) : Prop := vc_X12_in ((l1 : Int32).toInt64) 1 200 M (fun r7 M8 => if r7 = true then (vc_X12_in ((l2 : Int32).toInt64) 0 10000 M8 (fun r10 M11 => if r10 = true then (mj_tag M11 l0 = 13 ∧ if (mj_i M11 l0 35) ≤ 0 then (vb_X12_point_49 post l0 l1 l2 M11) else (mj_tag M11 (mj_r M11 l0 33) = 101 ∧ vp_in ((mj_i M11 l0 35) - 1) (mj_len M11 (mj_r M11 l0 33)) ∧ if (mj_i M11 (mj_r M11 l0 33) ((mj_i M11 l0 35) - 1 : Int32).toNatClampNeg) < l1 then (vb_X12_point_49 post l0 l1 l2 M11) else (post ((-2)) M11))) else (post ((-2)) M11))) else (post ((-2)) M8))
set_option maxHeartbeats 4000000 in
set_option maxRecDepth 100000 in
theorem xb_X12_point_49 {g : mj_G} {post : Int32 → mj_M → Prop} (hC : mj_C g yX12_point cX12_point 3 (some .int) rm_X12_point) (hE : mj_E g mj_jI post 0 0) (l0 : Nat) (l1 : Int32) (l2 : Int32) (M : mj_M) (h : vb_X12_point_49 post l0 l1 l2 M) : mj_X g 49 [(0, vR l0), (1, vI l1), (2, vI l2)] [] M 0 0 := by
  simp only [vb_X12_point_49] at h
  refine mx_aload_n (j := 0) hC dX12_point_49 rfl rfl ?_
  obtain ⟨ht1, h⟩ := h
  refine mx_get (v := vI (mj_i M l0 35)) hC tf_X12_334 ht1 rfl dX12_point_50 ?_
  refine mx_bipush (v := 10) hC dX12_point_53 (by decide) ?_
  refine mx_icmpne (tgt := 61) hC dX12_point_55 (by decide) (fun hc2 => ?_) (fun hc2 => ?_)
  · replace h := mj_nn hc2 h
    refine mx_aload_n (j := 0) hC dX12_point_61 rfl rfl ?_
    refine mx_get (v := vR (mj_r M l0 33)) hC tf_X12_95 ht1 rfl dX12_point_62 ?_
    refine mx_aload_n (j := 0) hC dX12_point_65 rfl rfl ?_
    refine mx_get (v := vI (mj_i M l0 35)) hC tf_X12_334 ht1 rfl dX12_point_66 ?_
    refine mx_iload_n (j := 1) hC dX12_point_69 rfl rfl ?_
    obtain ⟨ht3, h⟩ := h
    obtain ⟨hi4, h⟩ := h
    refine mx_iastore hC ht3 hi4 dX12_point_70 ?_
    refine mx_aload_n (j := 0) hC dX12_point_71 rfl rfl ?_
    refine mx_get (v := vR (mj_r M l0 34)) hC tf_X12_98 ht1 rfl dX12_point_72 ?_
    refine mx_aload_n (j := 0) hC dX12_point_75 rfl rfl ?_
    refine mx_get (v := vI (mj_i (mj_wi M (mj_r M l0 33) (mj_i M l0 35 : Int32).toNatClampNeg l1) l0 35)) hC tf_X12_334 ht1 rfl dX12_point_76 ?_
    refine mx_iload_n (j := 2) hC dX12_point_79 rfl rfl ?_
    obtain ⟨ht5, h⟩ := h
    obtain ⟨hi6, h⟩ := h
    refine mx_iastore hC ht5 hi6 dX12_point_80 ?_
    refine mx_aload_n (j := 0) hC dX12_point_81 rfl rfl ?_
    refine mx_dup hC dX12_point_82 rfl ?_
    refine mx_get (v := vI (mj_i (mj_wi (mj_wi M (mj_r M l0 33) (mj_i M l0 35 : Int32).toNatClampNeg l1) (mj_r M l0 34) (mj_i (mj_wi M (mj_r M l0 33) (mj_i M l0 35 : Int32).toNatClampNeg l1) l0 35 : Int32).toNatClampNeg l2) l0 35)) hC tf_X12_334 ht1 rfl dX12_point_83 ?_
    refine mx_iconst (v := 1) hC dX12_point_86 (by decide) ?_
    refine mx_iadd hC dX12_point_87 ?_
    refine mx_put (v := vI ((mj_i (mj_wi (mj_wi M (mj_r M l0 33) (mj_i M l0 35 : Int32).toNatClampNeg l1) (mj_r M l0 34) (mj_i (mj_wi M (mj_r M l0 33) (mj_i M l0 35 : Int32).toNatClampNeg l1) l0 35 : Int32).toNatClampNeg l2) l0 35) + 1)) (M1 := mj_wi (mj_wi (mj_wi M (mj_r M l0 33) (mj_i M l0 35 : Int32).toNatClampNeg l1) (mj_r M l0 34) (mj_i (mj_wi M (mj_r M l0 33) (mj_i M l0 35 : Int32).toNatClampNeg l1) l0 35 : Int32).toNatClampNeg l2) l0 35 ((mj_i (mj_wi (mj_wi M (mj_r M l0 33) (mj_i M l0 35 : Int32).toNatClampNeg l1) (mj_r M l0 34) (mj_i (mj_wi M (mj_r M l0 33) (mj_i M l0 35 : Int32).toNatClampNeg l1) l0 35 : Int32).toNatClampNeg l2) l0 35) + 1)) hC tf_X12_334 ht1 (Or.inl rfl) ⟨rfl, rfl⟩ (mj_off_wi _ _ _ _) mj_put_wi dX12_point_88 ?_
    refine mx_aload_n (j := 0) hC dX12_point_91 rfl rfl ?_
    refine mx_get (v := vI (mj_i (mj_wi (mj_wi (mj_wi M (mj_r M l0 33) (mj_i M l0 35 : Int32).toNatClampNeg l1) (mj_r M l0 34) (mj_i (mj_wi M (mj_r M l0 33) (mj_i M l0 35 : Int32).toNatClampNeg l1) l0 35 : Int32).toNatClampNeg l2) l0 35 ((mj_i (mj_wi (mj_wi M (mj_r M l0 33) (mj_i M l0 35 : Int32).toNatClampNeg l1) (mj_r M l0 34) (mj_i (mj_wi M (mj_r M l0 33) (mj_i M l0 35 : Int32).toNatClampNeg l1) l0 35 : Int32).toNatClampNeg l2) l0 35) + 1)) l0 35)) hC tf_X12_334 ht1 rfl dX12_point_92 ?_
    exact mx_iret hC hE rfl dX12_point_95 h
  · replace h := mj_yy hc2 h
    refine mx_bipush (v := (-4)) hC dX12_point_58 (by decide) ?_
    exact mx_iret hC hE rfl dX12_point_60 h
set_option maxHeartbeats 4000000 in
set_option maxRecDepth 100000 in
theorem ct_X12_point {l : Launch} {base : Nat} {D : va_G} {A : ClassId × ClassId × ClassId} (l0 : Nat) (l1 : Int32) (l2 : Int32) (M : mj_M) (post : Int32 → mj_M → Prop) (h : vc_X12_point l0 l1 l2 M post) : mj_Met l base D A mj_jI yX12_point cX12_point 3 (some .int) rm_X12_point 0 0 [vR l0, vI l1, vI l2] M post := by
  refine mj_entry (by decide +kernel) (Nat.le_of_ble_eq_true rfl) (fun g hC hE h1 h2 h3 h4 => ?_)
  show mj_X g 0 [(0, vR l0), (1, vI l1), (2, vI l2)] [] M 0 0
  simp only [vc_X12_point] at h
  refine mx_iload_n (j := 1) hC dX12_point_0 rfl rfl ?_
  refine mx_i2l hC dX12_point_1 ?_
  refine mx_lconst (v := 1) hC dX12_point_2 (by decide) ?_
  refine mx_ldc2 (v := 200) hC dX12_point_3 tw1686 ?_
  refine mx_callS (inj := mj_jB) (As := [vL ((l1 : Int32).toInt64), vL 1, vL 200]) (st := []) hC (ct_X12_in ((l1 : Int32).toInt64) 1 200 M _ h) ty_X12_in tw1379 rfl (Nat.le_of_ble_eq_true rfl) ⟨rfl, rfl, ⟨by decide, by decide⟩, by decide, by decide⟩ dX12_point_6 (fun r7 M8 h => ?_)
  show mj_X g 9 [(0, vR l0), (1, vI l1), (2, vI l2)] [vI (mj_b r7)] M8 0 0
  refine mx_ifeqB (tgt := 46) hC dX12_point_9 (by decide) (fun hc9 => ?_) (fun hc9 => ?_)
  · replace h := mj_nn hc9 h
    refine mx_bipush (v := (-2)) hC dX12_point_46 (by decide) ?_
    exact mx_iret hC hE rfl dX12_point_48 h
  · replace h := mj_yy hc9 h
    refine mx_iload_n (j := 2) hC dX12_point_12 rfl rfl ?_
    refine mx_i2l hC dX12_point_13 ?_
    refine mx_lconst (v := 0) hC dX12_point_14 (by decide) ?_
    refine mx_ldc2 (v := 10000) hC dX12_point_15 tw1687 ?_
    refine mx_callS (inj := mj_jB) (As := [vL ((l2 : Int32).toInt64), vL 0, vL 10000]) (st := []) hC (ct_X12_in ((l2 : Int32).toInt64) 0 10000 M8 _ h) ty_X12_in tw1379 rfl (Nat.le_of_ble_eq_true rfl) ⟨rfl, rfl, ⟨by decide, by decide⟩, by decide, by decide⟩ dX12_point_18 (fun r10 M11 h => ?_)
    show mj_X g 21 [(0, vR l0), (1, vI l1), (2, vI l2)] [vI (mj_b r10)] M11 0 0
    refine mx_ifeqB (tgt := 46) hC dX12_point_21 (by decide) (fun hc12 => ?_) (fun hc12 => ?_)
    · replace h := mj_nn hc12 h
      refine mx_bipush (v := (-2)) hC dX12_point_46 (by decide) ?_
      exact mx_iret hC hE rfl dX12_point_48 h
    · replace h := mj_yy hc12 h
      refine mx_aload_n (j := 0) hC dX12_point_24 rfl rfl ?_
      obtain ⟨ht13, h⟩ := h
      refine mx_get (v := vI (mj_i M11 l0 35)) hC tf_X12_334 ht13 rfl dX12_point_25 ?_
      refine mx_ifle (tgt := 49) hC dX12_point_28 (by decide) (fun hc14 => ?_) (fun hc14 => ?_)
      · replace h := mj_yy hc14 h
        refine mx_sub (L' := [(0, vR l0), (1, vI l1), (2, vI l2)]) [0, 1, 2] rfl ?_
        exact show mj_X g 49 [(0, vR l0), (1, vI l1), (2, vI l2)] [] M11 0 0 from (xb_X12_point_49 hC hE l0 l1 l2 M11 h)
      · replace h := mj_nn hc14 h
        refine mx_iload_n (j := 1) hC dX12_point_31 rfl rfl ?_
        refine mx_aload_n (j := 0) hC dX12_point_32 rfl rfl ?_
        refine mx_get (v := vR (mj_r M11 l0 33)) hC tf_X12_95 ht13 rfl dX12_point_33 ?_
        refine mx_aload_n (j := 0) hC dX12_point_36 rfl rfl ?_
        refine mx_get (v := vI (mj_i M11 l0 35)) hC tf_X12_334 ht13 rfl dX12_point_37 ?_
        refine mx_iconst (v := 1) hC dX12_point_40 (by decide) ?_
        refine mx_isub hC dX12_point_41 ?_
        obtain ⟨ht15, h⟩ := h
        obtain ⟨hi16, h⟩ := h
        refine mx_iaload hC ht15 hi16 dX12_point_42 ?_
        refine mx_icmpgt (tgt := 49) hC dX12_point_43 (by decide) (fun hc17 => ?_) (fun hc17 => ?_)
        · replace h := mj_yy hc17 h
          refine mx_sub (L' := [(0, vR l0), (1, vI l1), (2, vI l2)]) [0, 1, 2] rfl ?_
          exact show mj_X g 49 [(0, vR l0), (1, vI l1), (2, vI l2)] [] M11 0 0 from (xb_X12_point_49 hC hE l0 l1 l2 M11 h)
        · replace h := mj_nn hc17 h
          refine mx_bipush (v := (-2)) hC dX12_point_46 (by decide) ?_
          exact mx_iret hC hE rfl dX12_point_48 h
def rm_X12_blank : Room := { frames := 0, cells := 0, slots := 0, locals := 0 }
theorem dX12_blank_0 : decode cX12_blank 0 = .ok (.aload_n 0, 1) := by decide +kernel
theorem dX12_blank_1 : decode cX12_blank 1 = .ok (.getfield 334, 3) := by decide +kernel
theorem dX12_blank_4 : decode cX12_blank 4 = .ok (.istore_n 1, 1) := by decide +kernel
theorem dX12_blank_5 : decode cX12_blank 5 = .ok (.aload_n 0, 1) := by decide +kernel
theorem dX12_blank_6 : decode cX12_blank 6 = .ok (.iconst 0, 1) := by decide +kernel
theorem dX12_blank_7 : decode cX12_blank 7 = .ok (.putfield 334, 3) := by decide +kernel
theorem dX12_blank_10 : decode cX12_blank 10 = .ok (.iload_n 1, 1) := by decide +kernel
theorem dX12_blank_11 : decode cX12_blank 11 = .ok (.ireturn, 1) := by decide +kernel
def vc_X12_blank (l0 : Nat) (M : mj_M) (post : Int32 → mj_M → Prop) : Prop := mj_tag M l0 = 13 ∧ post (mj_i M l0 35) (mj_wi M l0 35 0)
set_option maxHeartbeats 4000000 in
set_option maxRecDepth 100000 in
theorem ct_X12_blank {l : Launch} {base : Nat} {D : va_G} {A : ClassId × ClassId × ClassId} (l0 : Nat) (M : mj_M) (post : Int32 → mj_M → Prop) (h : vc_X12_blank l0 M post) : mj_Met l base D A mj_jI yX12_blank cX12_blank 2 (some .int) rm_X12_blank 0 0 [vR l0] M post := by
  refine mj_entry (by decide +kernel) (Nat.le_of_ble_eq_true rfl) (fun g hC hE h1 h2 h3 h4 => ?_)
  show mj_X g 0 [(0, vR l0)] [] M 0 0
  simp only [vc_X12_blank] at h
  refine mx_aload_n (j := 0) hC dX12_blank_0 rfl rfl ?_
  obtain ⟨ht1, h⟩ := h
  refine mx_get (v := vI (mj_i M l0 35)) hC tf_X12_334 ht1 rfl dX12_blank_1 ?_
  refine mx_istore_n (L' := [(1, vI (mj_i M l0 35)), (0, vR l0)]) hC dX12_blank_4 rfl (by decide) rfl ?_
  refine mx_aload_n (j := 1) hC dX12_blank_5 rfl rfl ?_
  refine mx_iconst (v := 0) hC dX12_blank_6 (by decide) ?_
  refine mx_put (v := vI 0) (M1 := mj_wi M l0 35 0) hC tf_X12_334 ht1 (Or.inl rfl) ⟨rfl, rfl⟩ (mj_off_wi _ _ _ _) mj_put_wi dX12_blank_7 ?_
  refine mx_iload_n (j := 0) hC dX12_blank_10 rfl rfl ?_
  exact mx_iret hC hE rfl dX12_blank_11 h
def rm_X12_tableAt : Room := { frames := 0, cells := 0, slots := 0, locals := 0 }
theorem dX12_tableAt_0 : decode cX12_tableAt 0 = .ok (.aload_n 0, 1) := by decide +kernel
theorem dX12_tableAt_1 : decode cX12_tableAt 1 = .ok (.getfield 334, 3) := by decide +kernel
theorem dX12_tableAt_4 : decode cX12_tableAt 4 = .ok (.ifCond .ne 7, 3) := by decide +kernel
theorem dX12_tableAt_7 : decode cX12_tableAt 7 = .ok (.sipush 10000, 3) := by decide +kernel
theorem dX12_tableAt_10 : decode cX12_tableAt 10 = .ok (.ireturn, 1) := by decide +kernel
theorem dX12_tableAt_11 : decode cX12_tableAt 11 = .ok (.iconst 0, 1) := by decide +kernel
theorem dX12_tableAt_12 : decode cX12_tableAt 12 = .ok (.istore_n 2, 1) := by decide +kernel
theorem dX12_tableAt_13 : decode cX12_tableAt 13 = .ok (.iconst 0, 1) := by decide +kernel
theorem dX12_tableAt_14 : decode cX12_tableAt 14 = .ok (.istore_n 3, 1) := by decide +kernel
theorem dX12_tableAt_15 : decode cX12_tableAt 15 = .ok (.iconst 0, 1) := by decide +kernel
theorem dX12_tableAt_16 : decode cX12_tableAt 16 = .ok (.istore 4, 2) := by decide +kernel
theorem dX12_tableAt_18 : decode cX12_tableAt 18 = .ok (.iload 4, 2) := by decide +kernel
theorem dX12_tableAt_20 : decode cX12_tableAt 20 = .ok (.aload_n 0, 1) := by decide +kernel
theorem dX12_tableAt_21 : decode cX12_tableAt 21 = .ok (.getfield 334, 3) := by decide +kernel
theorem dX12_tableAt_24 : decode cX12_tableAt 24 = .ok (.if_icmp .ge 70, 3) := by decide +kernel
theorem dX12_tableAt_27 : decode cX12_tableAt 27 = .ok (.iload_n 1, 1) := by decide +kernel
theorem dX12_tableAt_28 : decode cX12_tableAt 28 = .ok (.aload_n 0, 1) := by decide +kernel
theorem dX12_tableAt_29 : decode cX12_tableAt 29 = .ok (.getfield 95, 3) := by decide +kernel
theorem dX12_tableAt_32 : decode cX12_tableAt 32 = .ok (.iload 4, 2) := by decide +kernel
theorem dX12_tableAt_34 : decode cX12_tableAt 34 = .ok (.iaload, 1) := by decide +kernel
theorem dX12_tableAt_35 : decode cX12_tableAt 35 = .ok (.if_icmp .gt 37, 3) := by decide +kernel
theorem dX12_tableAt_38 : decode cX12_tableAt 38 = .ok (.iload_n 3, 1) := by decide +kernel
theorem dX12_tableAt_39 : decode cX12_tableAt 39 = .ok (.aload_n 0, 1) := by decide +kernel
theorem dX12_tableAt_40 : decode cX12_tableAt 40 = .ok (.getfield 95, 3) := by decide +kernel
theorem dX12_tableAt_43 : decode cX12_tableAt 43 = .ok (.iload 4, 2) := by decide +kernel
theorem dX12_tableAt_45 : decode cX12_tableAt 45 = .ok (.iaload, 1) := by decide +kernel
theorem dX12_tableAt_46 : decode cX12_tableAt 46 = .ok (.iload_n 1, 1) := by decide +kernel
theorem dX12_tableAt_47 : decode cX12_tableAt 47 = .ok (.isub, 1) := by decide +kernel
theorem dX12_tableAt_48 : decode cX12_tableAt 48 = .ok (.imul, 1) := by decide +kernel
theorem dX12_tableAt_49 : decode cX12_tableAt 49 = .ok (.aload_n 0, 1) := by decide +kernel
theorem dX12_tableAt_50 : decode cX12_tableAt 50 = .ok (.getfield 98, 3) := by decide +kernel
theorem dX12_tableAt_53 : decode cX12_tableAt 53 = .ok (.iload 4, 2) := by decide +kernel
theorem dX12_tableAt_55 : decode cX12_tableAt 55 = .ok (.iaload, 1) := by decide +kernel
theorem dX12_tableAt_56 : decode cX12_tableAt 56 = .ok (.iload_n 1, 1) := by decide +kernel
theorem dX12_tableAt_57 : decode cX12_tableAt 57 = .ok (.iload_n 2, 1) := by decide +kernel
theorem dX12_tableAt_58 : decode cX12_tableAt 58 = .ok (.isub, 1) := by decide +kernel
theorem dX12_tableAt_59 : decode cX12_tableAt 59 = .ok (.imul, 1) := by decide +kernel
theorem dX12_tableAt_60 : decode cX12_tableAt 60 = .ok (.iadd, 1) := by decide +kernel
theorem dX12_tableAt_61 : decode cX12_tableAt 61 = .ok (.aload_n 0, 1) := by decide +kernel
theorem dX12_tableAt_62 : decode cX12_tableAt 62 = .ok (.getfield 95, 3) := by decide +kernel
theorem dX12_tableAt_65 : decode cX12_tableAt 65 = .ok (.iload 4, 2) := by decide +kernel
theorem dX12_tableAt_67 : decode cX12_tableAt 67 = .ok (.iaload, 1) := by decide +kernel
theorem dX12_tableAt_68 : decode cX12_tableAt 68 = .ok (.iload_n 2, 1) := by decide +kernel
theorem dX12_tableAt_69 : decode cX12_tableAt 69 = .ok (.isub, 1) := by decide +kernel
theorem dX12_tableAt_70 : decode cX12_tableAt 70 = .ok (.idiv, 1) := by decide +kernel
theorem dX12_tableAt_71 : decode cX12_tableAt 71 = .ok (.ireturn, 1) := by decide +kernel
theorem dX12_tableAt_72 : decode cX12_tableAt 72 = .ok (.aload_n 0, 1) := by decide +kernel
theorem dX12_tableAt_73 : decode cX12_tableAt 73 = .ok (.getfield 95, 3) := by decide +kernel
theorem dX12_tableAt_76 : decode cX12_tableAt 76 = .ok (.iload 4, 2) := by decide +kernel
theorem dX12_tableAt_78 : decode cX12_tableAt 78 = .ok (.iaload, 1) := by decide +kernel
theorem dX12_tableAt_79 : decode cX12_tableAt 79 = .ok (.istore_n 2, 1) := by decide +kernel
theorem dX12_tableAt_80 : decode cX12_tableAt 80 = .ok (.aload_n 0, 1) := by decide +kernel
theorem dX12_tableAt_81 : decode cX12_tableAt 81 = .ok (.getfield 98, 3) := by decide +kernel
theorem dX12_tableAt_84 : decode cX12_tableAt 84 = .ok (.iload 4, 2) := by decide +kernel
theorem dX12_tableAt_86 : decode cX12_tableAt 86 = .ok (.iaload, 1) := by decide +kernel
theorem dX12_tableAt_87 : decode cX12_tableAt 87 = .ok (.istore_n 3, 1) := by decide +kernel
theorem dX12_tableAt_88 : decode cX12_tableAt 88 = .ok (.iinc 4 1, 3) := by decide +kernel
theorem dX12_tableAt_91 : decode cX12_tableAt 91 = .ok (.goto (-73), 3) := by decide +kernel
theorem dX12_tableAt_94 : decode cX12_tableAt 94 = .ok (.iload_n 3, 1) := by decide +kernel
theorem dX12_tableAt_95 : decode cX12_tableAt 95 = .ok (.ireturn, 1) := by decide +kernel
def vb_X12_tableAt_18 (post : Int32 → mj_M → Prop) : Nat → Nat → Int32 → Int32 → Int32 → Int32 → mj_M → Prop
  | 0 => fun _ _ _ _ _ _ => False
  | f + 1 => fun l0 l1 l2 l3 l4 M => mj_tag M l0 = 13 ∧ if (mj_i M l0 35) ≤ l4 then (post l3 M) else (mj_tag M (mj_r M l0 33) = 101 ∧ vp_in l4 (mj_len M (mj_r M l0 33)) ∧ if (mj_i M (mj_r M l0 33) (l4 : Int32).toNatClampNeg) < l1 then (mj_tag M (mj_r M l0 34) = 101 ∧ vp_in l4 (mj_len M (mj_r M l0 34)) ∧ vb_X12_tableAt_18 post f l0 l1 (mj_i M (mj_r M l0 33) (l4 : Int32).toNatClampNeg) (mj_i M (mj_r M l0 34) (l4 : Int32).toNatClampNeg) (l4 + 1) M) else (mj_tag M (mj_r M l0 34) = 101 ∧ vp_in l4 (mj_len M (mj_r M l0 34)) ∧ (¬ ((mj_i M (mj_r M l0 33) (l4 : Int32).toNatClampNeg) - l2) = 0) ∧ post (((l3 * ((mj_i M (mj_r M l0 33) (l4 : Int32).toNatClampNeg) - l1)) + ((mj_i M (mj_r M l0 34) (l4 : Int32).toNatClampNeg) * (l1 - l2))) / ((mj_i M (mj_r M l0 33) (l4 : Int32).toNatClampNeg) - l2)) M))
def vc_X12_tableAt (l0 : Nat) (l1 : Int32) (M : mj_M) (post : Int32 → mj_M → Prop) : Prop := mj_tag M l0 = 13 ∧ if (mj_i M l0 35) = 0 then (post 10000 M) else (∃ fe, vb_X12_tableAt_18 post fe l0 l1 0 0 0 M)
set_option maxHeartbeats 4000000 in
set_option maxRecDepth 100000 in
theorem xb_X12_tableAt_18 {g : mj_G} {post : Int32 → mj_M → Prop} (hC : mj_C g yX12_tableAt cX12_tableAt 5 (some .int) rm_X12_tableAt) (hE : mj_E g mj_jI post 0 0) : ∀ (f : Nat) (l0 : Nat) (l1 : Int32) (l2 : Int32) (l3 : Int32) (l4 : Int32) (M : mj_M), vb_X12_tableAt_18 post f l0 l1 l2 l3 l4 M → mj_X g 18 [(0, vR l0), (1, vI l1), (2, vI l2), (3, vI l3), (4, vI l4)] [] M 0 0 := by
  intro f
  induction f with
  | zero => exact fun _ _ _ _ _ _ h => absurd h (fun z => z)
  | succ f ih =>
    intro l0 l1 l2 l3 l4 M h
    simp only [vb_X12_tableAt_18] at h
    refine mx_iload (j := 4) hC dX12_tableAt_18 rfl ?_
    refine mx_aload_n (j := 0) hC dX12_tableAt_20 rfl rfl ?_
    obtain ⟨ht1, h⟩ := h
    refine mx_get (v := vI (mj_i M l0 35)) hC tf_X12_334 ht1 rfl dX12_tableAt_21 ?_
    refine mx_icmpge (tgt := 94) hC dX12_tableAt_24 (by decide) (fun hc2 => ?_) (fun hc2 => ?_)
    · replace h := mj_yy hc2 h
      refine mx_iload_n (j := 3) hC dX12_tableAt_94 rfl rfl ?_
      exact mx_iret hC hE rfl dX12_tableAt_95 h
    · replace h := mj_nn hc2 h
      refine mx_iload_n (j := 1) hC dX12_tableAt_27 rfl rfl ?_
      refine mx_aload_n (j := 0) hC dX12_tableAt_28 rfl rfl ?_
      refine mx_get (v := vR (mj_r M l0 33)) hC tf_X12_95 ht1 rfl dX12_tableAt_29 ?_
      refine mx_iload (j := 4) hC dX12_tableAt_32 rfl ?_
      obtain ⟨ht3, h⟩ := h
      obtain ⟨hi4, h⟩ := h
      refine mx_iaload hC ht3 hi4 dX12_tableAt_34 ?_
      refine mx_icmpgt (tgt := 72) hC dX12_tableAt_35 (by decide) (fun hc5 => ?_) (fun hc5 => ?_)
      · replace h := mj_yy hc5 h
        refine mx_aload_n (j := 0) hC dX12_tableAt_72 rfl rfl ?_
        refine mx_get (v := vR (mj_r M l0 33)) hC tf_X12_95 ht1 rfl dX12_tableAt_73 ?_
        refine mx_iload (j := 4) hC dX12_tableAt_76 rfl ?_
        refine mx_iaload hC ht3 hi4 dX12_tableAt_78 ?_
        refine mx_istore_n (L' := [(2, vI (mj_i M (mj_r M l0 33) (l4 : Int32).toNatClampNeg)), (0, vR l0), (1, vI l1), (3, vI l3), (4, vI l4)]) hC dX12_tableAt_79 rfl (by decide) rfl ?_
        refine mx_aload_n (j := 1) hC dX12_tableAt_80 rfl rfl ?_
        refine mx_get (v := vR (mj_r M l0 34)) hC tf_X12_98 ht1 rfl dX12_tableAt_81 ?_
        refine mx_iload (j := 4) hC dX12_tableAt_84 rfl ?_
        obtain ⟨ht6, h⟩ := h
        obtain ⟨hi7, h⟩ := h
        refine mx_iaload hC ht6 hi7 dX12_tableAt_86 ?_
        refine mx_istore_n (L' := [(3, vI (mj_i M (mj_r M l0 34) (l4 : Int32).toNatClampNeg)), (2, vI (mj_i M (mj_r M l0 33) (l4 : Int32).toNatClampNeg)), (0, vR l0), (1, vI l1), (4, vI l4)]) hC dX12_tableAt_87 rfl (by decide) rfl ?_
        refine mx_iinc (j := 4) (v := l4 + 1) (L' := [(4, vI (l4 + 1)), (3, vI (mj_i M (mj_r M l0 34) (l4 : Int32).toNatClampNeg)), (2, vI (mj_i M (mj_r M l0 33) (l4 : Int32).toNatClampNeg)), (0, vR l0), (1, vI l1)]) hC dX12_tableAt_88 rfl rfl (by decide) rfl ?_
        refine mx_goto (tgt := 18) hC dX12_tableAt_91 (by decide) ?_
        refine mx_sub (L' := [(0, vR l0), (1, vI l1), (2, vI (mj_i M (mj_r M l0 33) (l4 : Int32).toNatClampNeg)), (3, vI (mj_i M (mj_r M l0 34) (l4 : Int32).toNatClampNeg)), (4, vI (l4 + 1))]) [3, 4, 2, 1, 0] rfl ?_
        exact show mj_X g 18 [(0, vR l0), (1, vI l1), (2, vI (mj_i M (mj_r M l0 33) (l4 : Int32).toNatClampNeg)), (3, vI (mj_i M (mj_r M l0 34) (l4 : Int32).toNatClampNeg)), (4, vI (l4 + 1))] [] M 0 0 from (ih l0 l1 (mj_i M (mj_r M l0 33) (l4 : Int32).toNatClampNeg) (mj_i M (mj_r M l0 34) (l4 : Int32).toNatClampNeg) (l4 + 1) M h)
      · replace h := mj_nn hc5 h
        refine mx_iload_n (j := 3) hC dX12_tableAt_38 rfl rfl ?_
        refine mx_aload_n (j := 0) hC dX12_tableAt_39 rfl rfl ?_
        refine mx_get (v := vR (mj_r M l0 33)) hC tf_X12_95 ht1 rfl dX12_tableAt_40 ?_
        refine mx_iload (j := 4) hC dX12_tableAt_43 rfl ?_
        refine mx_iaload hC ht3 hi4 dX12_tableAt_45 ?_
        refine mx_iload_n (j := 1) hC dX12_tableAt_46 rfl rfl ?_
        refine mx_isub hC dX12_tableAt_47 ?_
        refine mx_imul hC dX12_tableAt_48 ?_
        refine mx_aload_n (j := 0) hC dX12_tableAt_49 rfl rfl ?_
        refine mx_get (v := vR (mj_r M l0 34)) hC tf_X12_98 ht1 rfl dX12_tableAt_50 ?_
        refine mx_iload (j := 4) hC dX12_tableAt_53 rfl ?_
        obtain ⟨ht8, h⟩ := h
        obtain ⟨hi9, h⟩ := h
        refine mx_iaload hC ht8 hi9 dX12_tableAt_55 ?_
        refine mx_iload_n (j := 1) hC dX12_tableAt_56 rfl rfl ?_
        refine mx_iload_n (j := 2) hC dX12_tableAt_57 rfl rfl ?_
        refine mx_isub hC dX12_tableAt_58 ?_
        refine mx_imul hC dX12_tableAt_59 ?_
        refine mx_iadd hC dX12_tableAt_60 ?_
        refine mx_aload_n (j := 0) hC dX12_tableAt_61 rfl rfl ?_
        refine mx_get (v := vR (mj_r M l0 33)) hC tf_X12_95 ht1 rfl dX12_tableAt_62 ?_
        refine mx_iload (j := 4) hC dX12_tableAt_65 rfl ?_
        refine mx_iaload hC ht3 hi4 dX12_tableAt_67 ?_
        refine mx_iload_n (j := 2) hC dX12_tableAt_68 rfl rfl ?_
        refine mx_isub hC dX12_tableAt_69 ?_
        obtain ⟨hz10, h⟩ := h
        refine mx_idiv hC dX12_tableAt_70 hz10 ?_
        exact mx_iret hC hE rfl dX12_tableAt_71 h
set_option maxHeartbeats 4000000 in
set_option maxRecDepth 100000 in
theorem ct_X12_tableAt {l : Launch} {base : Nat} {D : va_G} {A : ClassId × ClassId × ClassId} (l0 : Nat) (l1 : Int32) (M : mj_M) (post : Int32 → mj_M → Prop) (h : vc_X12_tableAt l0 l1 M post) : mj_Met l base D A mj_jI yX12_tableAt cX12_tableAt 5 (some .int) rm_X12_tableAt 0 0 [vR l0, vI l1] M post := by
  refine mj_entry (by decide +kernel) (Nat.le_of_ble_eq_true rfl) (fun g hC hE h1 h2 h3 h4 => ?_)
  show mj_X g 0 [(0, vR l0), (1, vI l1)] [] M 0 0
  simp only [vc_X12_tableAt] at h
  refine mx_aload_n (j := 0) hC dX12_tableAt_0 rfl rfl ?_
  obtain ⟨ht11, h⟩ := h
  refine mx_get (v := vI (mj_i M l0 35)) hC tf_X12_334 ht11 rfl dX12_tableAt_1 ?_
  refine mx_ifne (tgt := 11) hC dX12_tableAt_4 (by decide) (fun hc12 => ?_) (fun hc12 => ?_)
  · replace h := mj_nn hc12 h
    refine mx_iconst (v := 0) hC dX12_tableAt_11 (by decide) ?_
    refine mx_istore_n (L' := [(2, vI 0), (0, vR l0), (1, vI l1)]) hC dX12_tableAt_12 rfl (by decide) rfl ?_
    refine mx_iconst (v := 0) hC dX12_tableAt_13 (by decide) ?_
    refine mx_istore_n (L' := [(3, vI 0), (2, vI 0), (0, vR l0), (1, vI l1)]) hC dX12_tableAt_14 rfl (by decide) rfl ?_
    refine mx_iconst (v := 0) hC dX12_tableAt_15 (by decide) ?_
    refine mx_istore (L' := [(4, vI 0), (3, vI 0), (2, vI 0), (0, vR l0), (1, vI l1)]) hC dX12_tableAt_16 (by decide) rfl ?_
    refine mx_sub (L' := [(0, vR l0), (1, vI l1), (2, vI 0), (3, vI 0), (4, vI 0)]) [3, 4, 2, 1, 0] rfl ?_
    obtain ⟨fe, h⟩ := h
    exact show mj_X g 18 [(0, vR l0), (1, vI l1), (2, vI 0), (3, vI 0), (4, vI 0)] [] M 0 0 from (xb_X12_tableAt_18 hC hE fe l0 l1 0 0 0 M h)
  · replace h := mj_yy hc12 h
    refine mx_sipush (v := 10000) hC dX12_tableAt_7 (by decide) ?_
    exact mx_iret hC hE rfl dX12_tableAt_10 h
theorem tw1696 : (Jvm.Cond.methodLink "LeaseLandModel" (337 : Nat) ({ cls := "LeaseLandModel", name := "tableAt", desc := "(I)I" } : Jvm.MethodName)) ∈ mj_tbl := mj_w 1749 (by decide +kernel) (by decide +kernel)
theorem tw1699 : (Jvm.Cond.code ({ cls := "LeaseLandModel", name := "tableAt", desc := "(I)I" } : Jvm.MethodName) prog_14_method_82_code (5 : Nat) (Option.some Jvm.ClassFile.FieldType.int)) ∈ mj_tbl := mj_w 1752 (by decide +kernel) (by decide +kernel)
theorem tw1698 : (Jvm.Cond.instanceMethod ({ cls := "LeaseLandModel", name := "tableAt", desc := "(I)I" } : Jvm.MethodName)) ∈ mj_tbl := mj_w 1751 (by decide +kernel) (by decide +kernel)
theorem ty_X12_tableAt : mj_YV 12 yX12_tableAt cX12_tableAt 5 (some .int) 1 := ⟨⟨tw1699, tw11, by decide +kernel, by decide +kernel, by decide +kernel⟩, tw1698, mj_w 39 (by decide +kernel) (by decide +kernel), _, rfl, rfl⟩
def rm_X12_table : Room := { frames := 1, cells := 0, slots := 0, locals := 25 }
theorem dX12_table_0 : decode cX12_table 0 = .ok (.iload_n 1, 1) := by decide +kernel
theorem dX12_table_1 : decode cX12_table 1 = .ok (.i2l, 1) := by decide +kernel
theorem dX12_table_2 : decode cX12_table 2 = .ok (.lconst 0, 1) := by decide +kernel
theorem dX12_table_3 : decode cX12_table 3 = .ok (.ldc2_w 330, 3) := by decide +kernel
theorem dX12_table_6 : decode cX12_table 6 = .ok (.invokestatic 133, 3) := by decide +kernel
theorem dX12_table_9 : decode cX12_table 9 = .ok (.ifCond .eq 11, 3) := by decide +kernel
theorem dX12_table_12 : decode cX12_table 12 = .ok (.aload_n 0, 1) := by decide +kernel
theorem dX12_table_13 : decode cX12_table 13 = .ok (.iload_n 1, 1) := by decide +kernel
theorem dX12_table_14 : decode cX12_table 14 = .ok (.invokevirtual 337, 3) := by decide +kernel
theorem dX12_table_17 : decode cX12_table 17 = .ok (.goto 5, 3) := by decide +kernel
theorem dX12_table_20 : decode cX12_table 20 = .ok (.bipush (-2), 2) := by decide +kernel
theorem dX12_table_22 : decode cX12_table 22 = .ok (.ireturn, 1) := by decide +kernel
def vc_X12_table (l0 : Nat) (l1 : Int32) (M : mj_M) (post : Int32 → mj_M → Prop) : Prop := vc_X12_in ((l1 : Int32).toInt64) 0 200 M (fun r1 M2 => if r1 = true then (mj_tag M2 l0 = 13 ∧ vc_X12_tableAt l0 l1 M2 (fun r5 M6 => post r5 M6)) else (post ((-2)) M2))
set_option maxHeartbeats 4000000 in
set_option maxRecDepth 100000 in
theorem ct_X12_table {l : Launch} {base : Nat} {D : va_G} {A : ClassId × ClassId × ClassId} (l0 : Nat) (l1 : Int32) (M : mj_M) (post : Int32 → mj_M → Prop) (h : vc_X12_table l0 l1 M post) : mj_Met l base D A mj_jI yX12_table cX12_table 2 (some .int) rm_X12_table 0 0 [vR l0, vI l1] M post := by
  refine mj_entry (by decide +kernel) (Nat.le_of_ble_eq_true rfl) (fun g hC hE h1 h2 h3 h4 => ?_)
  show mj_X g 0 [(0, vR l0), (1, vI l1)] [] M 0 0
  simp only [vc_X12_table] at h
  refine mx_iload_n (j := 1) hC dX12_table_0 rfl rfl ?_
  refine mx_i2l hC dX12_table_1 ?_
  refine mx_lconst (v := 0) hC dX12_table_2 (by decide) ?_
  refine mx_ldc2 (v := 200) hC dX12_table_3 tw1686 ?_
  refine mx_callS (inj := mj_jB) (As := [vL ((l1 : Int32).toInt64), vL 0, vL 200]) (st := []) hC (ct_X12_in ((l1 : Int32).toInt64) 0 200 M _ h) ty_X12_in tw1379 rfl (Nat.le_of_ble_eq_true rfl) ⟨rfl, rfl, ⟨by decide, by decide⟩, by decide, by decide⟩ dX12_table_6 (fun r1 M2 h => ?_)
  show mj_X g 9 [(0, vR l0), (1, vI l1)] [vI (mj_b r1)] M2 0 0
  refine mx_ifeqB (tgt := 20) hC dX12_table_9 (by decide) (fun hc3 => ?_) (fun hc3 => ?_)
  · replace h := mj_nn hc3 h
    refine mx_bipush (v := (-2)) hC dX12_table_20 (by decide) ?_
    exact mx_iret hC hE rfl dX12_table_22 h
  · replace h := mj_yy hc3 h
    refine mx_aload_n (j := 0) hC dX12_table_12 rfl rfl ?_
    refine mx_iload_n (j := 1) hC dX12_table_13 rfl rfl ?_
    obtain ⟨ht4, h⟩ := h
    refine mx_callV (inj := mj_jI) (As := [vI l1]) (st := []) hC (ct_X12_tableAt l0 l1 M2 _ h) ty_X12_tableAt tw1696 ht4 rfl (Nat.le_of_ble_eq_true rfl) ⟨rfl, rfl, ⟨by decide, by decide⟩, by decide, by decide⟩ dX12_table_14 (fun r5 M6 h => ?_)
    show mj_X g 17 [(0, vR l0), (1, vI l1)] [vI r5] M6 0 0
    refine mx_goto (tgt := 22) hC dX12_table_17 (by decide) ?_
    exact mx_iret hC hE rfl dX12_table_22 h
def rm_X12_valueOf : Room := { frames := 0, cells := 0, slots := 0, locals := 0 }
theorem dX12_valueOf_0 : decode cX12_valueOf 0 = .ok (.lconst 0, 1) := by decide +kernel
theorem dX12_valueOf_1 : decode cX12_valueOf 1 = .ok (.lstore_n 2, 1) := by decide +kernel
theorem dX12_valueOf_2 : decode cX12_valueOf 2 = .ok (.iconst 0, 1) := by decide +kernel
theorem dX12_valueOf_3 : decode cX12_valueOf 3 = .ok (.istore 4, 2) := by decide +kernel
theorem dX12_valueOf_5 : decode cX12_valueOf 5 = .ok (.iload 4, 2) := by decide +kernel
theorem dX12_valueOf_7 : decode cX12_valueOf 7 = .ok (.bipush 12, 2) := by decide +kernel
theorem dX12_valueOf_9 : decode cX12_valueOf 9 = .ok (.if_icmp .ge 34, 3) := by decide +kernel
theorem dX12_valueOf_12 : decode cX12_valueOf 12 = .ok (.lload_n 2, 1) := by decide +kernel
theorem dX12_valueOf_13 : decode cX12_valueOf 13 = .ok (.iload_n 1, 1) := by decide +kernel
theorem dX12_valueOf_14 : decode cX12_valueOf 14 = .ok (.iload 4, 2) := by decide +kernel
theorem dX12_valueOf_16 : decode cX12_valueOf 16 = .ok (.ishr, 1) := by decide +kernel
theorem dX12_valueOf_17 : decode cX12_valueOf 17 = .ok (.iconst 1, 1) := by decide +kernel
theorem dX12_valueOf_18 : decode cX12_valueOf 18 = .ok (.iand, 1) := by decide +kernel
theorem dX12_valueOf_19 : decode cX12_valueOf 19 = .ok (.iconst 1, 1) := by decide +kernel
theorem dX12_valueOf_20 : decode cX12_valueOf 20 = .ok (.if_icmp .ne 14, 3) := by decide +kernel
theorem dX12_valueOf_23 : decode cX12_valueOf 23 = .ok (.aload_n 0, 1) := by decide +kernel
theorem dX12_valueOf_24 : decode cX12_valueOf 24 = .ok (.getfield 92, 3) := by decide +kernel
theorem dX12_valueOf_27 : decode cX12_valueOf 27 = .ok (.iload 4, 2) := by decide +kernel
theorem dX12_valueOf_29 : decode cX12_valueOf 29 = .ok (.iaload, 1) := by decide +kernel
theorem dX12_valueOf_30 : decode cX12_valueOf 30 = .ok (.i2l, 1) := by decide +kernel
theorem dX12_valueOf_31 : decode cX12_valueOf 31 = .ok (.goto 4, 3) := by decide +kernel
theorem dX12_valueOf_34 : decode cX12_valueOf 34 = .ok (.lconst 0, 1) := by decide +kernel
theorem dX12_valueOf_35 : decode cX12_valueOf 35 = .ok (.ladd, 1) := by decide +kernel
theorem dX12_valueOf_36 : decode cX12_valueOf 36 = .ok (.lstore_n 2, 1) := by decide +kernel
theorem dX12_valueOf_37 : decode cX12_valueOf 37 = .ok (.iinc 4 1, 3) := by decide +kernel
theorem dX12_valueOf_40 : decode cX12_valueOf 40 = .ok (.goto (-35), 3) := by decide +kernel
theorem dX12_valueOf_43 : decode cX12_valueOf 43 = .ok (.lload_n 2, 1) := by decide +kernel
theorem dX12_valueOf_44 : decode cX12_valueOf 44 = .ok (.lreturn, 1) := by decide +kernel
def vb_X12_valueOf_5 (post : Int64 → mj_M → Prop) : Nat → Nat → Int32 → Int64 → Int32 → mj_M → Prop
  | 0 => fun _ _ _ _ _ => False
  | f + 1 => fun l0 l1 l2 l4 M => if 12 ≤ l4 then (post l2 M) else (if ((l1 >>> (l4 &&& 31)) &&& 1) = 1 then (mj_tag M l0 = 13 ∧ mj_tag M (mj_r M l0 32) = 101 ∧ vp_in l4 (mj_len M (mj_r M l0 32)) ∧ vb_X12_valueOf_5 post f l0 l1 (l2 + ((mj_i M (mj_r M l0 32) (l4 : Int32).toNatClampNeg : Int32).toInt64)) (l4 + 1) M) else (vb_X12_valueOf_5 post f l0 l1 (l2 + 0) (l4 + 1) M))
def vc_X12_valueOf (l0 : Nat) (l1 : Int32) (M : mj_M) (post : Int64 → mj_M → Prop) : Prop := ∃ fe, vb_X12_valueOf_5 post fe l0 l1 0 0 M
set_option maxHeartbeats 4000000 in
set_option maxRecDepth 100000 in
theorem xb_X12_valueOf_5 {g : mj_G} {post : Int64 → mj_M → Prop} (hC : mj_C g yX12_valueOf cX12_valueOf 5 (some .long) rm_X12_valueOf) (hE : mj_E g mj_jL post 0 0) : ∀ (f : Nat) (l0 : Nat) (l1 : Int32) (l2 : Int64) (l4 : Int32) (M : mj_M), vb_X12_valueOf_5 post f l0 l1 l2 l4 M → mj_X g 5 [(0, vR l0), (1, vI l1), (2, vL l2), (4, vI l4)] [] M 0 0 := by
  intro f
  induction f with
  | zero => exact fun _ _ _ _ _ h => absurd h (fun z => z)
  | succ f ih =>
    intro l0 l1 l2 l4 M h
    simp only [vb_X12_valueOf_5] at h
    refine mx_iload (j := 3) hC dX12_valueOf_5 rfl ?_
    refine mx_bipush (v := 12) hC dX12_valueOf_7 (by decide) ?_
    refine mx_icmpge (tgt := 43) hC dX12_valueOf_9 (by decide) (fun hc1 => ?_) (fun hc1 => ?_)
    · replace h := mj_yy hc1 h
      refine mx_lload_n (j := 2) hC dX12_valueOf_43 rfl rfl ?_
      exact mx_lret hC hE rfl dX12_valueOf_44 h
    · replace h := mj_nn hc1 h
      refine mx_lload_n (j := 2) hC dX12_valueOf_12 rfl rfl ?_
      refine mx_iload_n (j := 1) hC dX12_valueOf_13 rfl rfl ?_
      refine mx_iload (j := 3) hC dX12_valueOf_14 rfl ?_
      refine mx_ishr hC dX12_valueOf_16 ?_
      refine mx_iconst (v := 1) hC dX12_valueOf_17 (by decide) ?_
      refine mx_iand hC dX12_valueOf_18 ?_
      refine mx_iconst (v := 1) hC dX12_valueOf_19 (by decide) ?_
      refine mx_icmpne (tgt := 34) hC dX12_valueOf_20 (by decide) (fun hc2 => ?_) (fun hc2 => ?_)
      · replace h := mj_nn hc2 h
        refine mx_lconst (v := 0) hC dX12_valueOf_34 (by decide) ?_
        refine mx_ladd hC dX12_valueOf_35 ?_
        refine mx_lstore_n (L' := [(2, vL (l2 + 0)), (0, vR l0), (1, vI l1), (4, vI l4)]) hC dX12_valueOf_36 rfl (by decide) rfl ?_
        refine mx_iinc (j := 3) (v := l4 + 1) (L' := [(4, vI (l4 + 1)), (2, vL (l2 + 0)), (0, vR l0), (1, vI l1)]) hC dX12_valueOf_37 rfl rfl (by decide) rfl ?_
        refine mx_goto (tgt := 5) hC dX12_valueOf_40 (by decide) ?_
        refine mx_sub (L' := [(0, vR l0), (1, vI l1), (2, vL (l2 + 0)), (4, vI (l4 + 1))]) [2, 3, 1, 0] rfl ?_
        exact show mj_X g 5 [(0, vR l0), (1, vI l1), (2, vL (l2 + 0)), (4, vI (l4 + 1))] [] M 0 0 from (ih l0 l1 (l2 + 0) (l4 + 1) M h)
      · replace h := mj_yy hc2 h
        refine mx_aload_n (j := 0) hC dX12_valueOf_23 rfl rfl ?_
        obtain ⟨ht3, h⟩ := h
        refine mx_get (v := vR (mj_r M l0 32)) hC tf_X12_92 ht3 rfl dX12_valueOf_24 ?_
        refine mx_iload (j := 3) hC dX12_valueOf_27 rfl ?_
        obtain ⟨ht4, h⟩ := h
        obtain ⟨hi5, h⟩ := h
        refine mx_iaload hC ht4 hi5 dX12_valueOf_29 ?_
        refine mx_i2l hC dX12_valueOf_30 ?_
        refine mx_goto (tgt := 35) hC dX12_valueOf_31 (by decide) ?_
        refine mx_ladd hC dX12_valueOf_35 ?_
        refine mx_lstore_n (L' := [(2, vL (l2 + ((mj_i M (mj_r M l0 32) (l4 : Int32).toNatClampNeg : Int32).toInt64))), (0, vR l0), (1, vI l1), (4, vI l4)]) hC dX12_valueOf_36 rfl (by decide) rfl ?_
        refine mx_iinc (j := 3) (v := l4 + 1) (L' := [(4, vI (l4 + 1)), (2, vL (l2 + ((mj_i M (mj_r M l0 32) (l4 : Int32).toNatClampNeg : Int32).toInt64))), (0, vR l0), (1, vI l1)]) hC dX12_valueOf_37 rfl rfl (by decide) rfl ?_
        refine mx_goto (tgt := 5) hC dX12_valueOf_40 (by decide) ?_
        refine mx_sub (L' := [(0, vR l0), (1, vI l1), (2, vL (l2 + ((mj_i M (mj_r M l0 32) (l4 : Int32).toNatClampNeg : Int32).toInt64))), (4, vI (l4 + 1))]) [2, 3, 1, 0] rfl ?_
        exact show mj_X g 5 [(0, vR l0), (1, vI l1), (2, vL (l2 + ((mj_i M (mj_r M l0 32) (l4 : Int32).toNatClampNeg : Int32).toInt64))), (4, vI (l4 + 1))] [] M 0 0 from (ih l0 l1 (l2 + ((mj_i M (mj_r M l0 32) (l4 : Int32).toNatClampNeg : Int32).toInt64)) (l4 + 1) M h)
set_option maxHeartbeats 4000000 in
set_option maxRecDepth 100000 in
theorem ct_X12_valueOf {l : Launch} {base : Nat} {D : va_G} {A : ClassId × ClassId × ClassId} (l0 : Nat) (l1 : Int32) (M : mj_M) (post : Int64 → mj_M → Prop) (h : vc_X12_valueOf l0 l1 M post) : mj_Met l base D A mj_jL yX12_valueOf cX12_valueOf 5 (some .long) rm_X12_valueOf 0 0 [vR l0, vI l1] M post := by
  refine mj_entry (by decide +kernel) (Nat.le_of_ble_eq_true rfl) (fun g hC hE h1 h2 h3 h4 => ?_)
  show mj_X g 0 [(0, vR l0), (1, vI l1)] [] M 0 0
  simp only [vc_X12_valueOf] at h
  refine mx_lconst (v := 0) hC dX12_valueOf_0 (by decide) ?_
  refine mx_lstore_n (L' := [(2, vL 0), (0, vR l0), (1, vI l1)]) hC dX12_valueOf_1 rfl (by decide) rfl ?_
  refine mx_iconst (v := 0) hC dX12_valueOf_2 (by decide) ?_
  refine mx_istore (L' := [(4, vI 0), (2, vL 0), (0, vR l0), (1, vI l1)]) hC dX12_valueOf_3 (by decide) rfl ?_
  refine mx_sub (L' := [(0, vR l0), (1, vI l1), (2, vL 0), (4, vI 0)]) [2, 3, 1, 0] rfl ?_
  obtain ⟨fe, h⟩ := h
  exact show mj_X g 5 [(0, vR l0), (1, vI l1), (2, vL 0), (4, vI 0)] [] M 0 0 from (xb_X12_valueOf_5 hC hE fe l0 l1 0 0 M h)
theorem tw1712 : (Jvm.Cond.methodLink "LeaseLandModel" (340 : Nat) ({ cls := "LeaseLandModel", name := "valueOf", desc := "(I)J" } : Jvm.MethodName)) ∈ mj_tbl := mj_w 1765 (by decide +kernel) (by decide +kernel)
theorem tw1715 : (Jvm.Cond.code ({ cls := "LeaseLandModel", name := "valueOf", desc := "(I)J" } : Jvm.MethodName) prog_14_method_84_code (5 : Nat) (Option.some Jvm.ClassFile.FieldType.long)) ∈ mj_tbl := mj_w 1768 (by decide +kernel) (by decide +kernel)
theorem tw1714 : (Jvm.Cond.instanceMethod ({ cls := "LeaseLandModel", name := "valueOf", desc := "(I)J" } : Jvm.MethodName)) ∈ mj_tbl := mj_w 1767 (by decide +kernel) (by decide +kernel)
theorem ty_X12_valueOf : mj_YV 12 yX12_valueOf cX12_valueOf 5 (some .long) 1 := ⟨⟨tw1715, tw11, by decide +kernel, by decide +kernel, by decide +kernel⟩, tw1714, mj_w 42 (by decide +kernel) (by decide +kernel), _, rfl, rfl⟩
def rm_X12_worthOf : Room := { frames := 1, cells := 0, slots := 0, locals := 24 }
theorem dX12_worthOf_0 : decode cX12_worthOf 0 = .ok (.aload_n 0, 1) := by decide +kernel
theorem dX12_worthOf_1 : decode cX12_worthOf 1 = .ok (.iload_n 1, 1) := by decide +kernel
theorem dX12_worthOf_2 : decode cX12_worthOf 2 = .ok (.invokevirtual 340, 3) := by decide +kernel
theorem dX12_worthOf_5 : decode cX12_worthOf 5 = .ok (.aload_n 0, 1) := by decide +kernel
theorem dX12_worthOf_6 : decode cX12_worthOf 6 = .ok (.iload_n 2, 1) := by decide +kernel
theorem dX12_worthOf_7 : decode cX12_worthOf 7 = .ok (.invokevirtual 337, 3) := by decide +kernel
theorem dX12_worthOf_10 : decode cX12_worthOf 10 = .ok (.i2l, 1) := by decide +kernel
theorem dX12_worthOf_11 : decode cX12_worthOf 11 = .ok (.lmul, 1) := by decide +kernel
theorem dX12_worthOf_12 : decode cX12_worthOf 12 = .ok (.ldc2_w 332, 3) := by decide +kernel
theorem dX12_worthOf_15 : decode cX12_worthOf 15 = .ok (.ldiv, 1) := by decide +kernel
theorem dX12_worthOf_16 : decode cX12_worthOf 16 = .ok (.lreturn, 1) := by decide +kernel
def vc_X12_worthOf (l0 : Nat) (l1 : Int32) (l2 : Int32) (M : mj_M) (post : Int64 → mj_M → Prop) : Prop := mj_tag M l0 = 13 ∧ vc_X12_valueOf l0 l1 M (fun r2 M3 => mj_tag M3 l0 = 13 ∧ vc_X12_tableAt l0 l2 M3 (fun r5 M6 => post ((r2 * ((r5 : Int32).toInt64)) / 10000) M6))
set_option maxHeartbeats 4000000 in
set_option maxRecDepth 100000 in
theorem ct_X12_worthOf {l : Launch} {base : Nat} {D : va_G} {A : ClassId × ClassId × ClassId} (l0 : Nat) (l1 : Int32) (l2 : Int32) (M : mj_M) (post : Int64 → mj_M → Prop) (h : vc_X12_worthOf l0 l1 l2 M post) : mj_Met l base D A mj_jL yX12_worthOf cX12_worthOf 3 (some .long) rm_X12_worthOf 0 0 [vR l0, vI l1, vI l2] M post := by
  refine mj_entry (by decide +kernel) (Nat.le_of_ble_eq_true rfl) (fun g hC hE h1 h2 h3 h4 => ?_)
  show mj_X g 0 [(0, vR l0), (1, vI l1), (2, vI l2)] [] M 0 0
  simp only [vc_X12_worthOf] at h
  refine mx_aload_n (j := 0) hC dX12_worthOf_0 rfl rfl ?_
  refine mx_iload_n (j := 1) hC dX12_worthOf_1 rfl rfl ?_
  obtain ⟨ht1, h⟩ := h
  refine mx_callV (inj := mj_jL) (As := [vI l1]) (st := []) hC (ct_X12_valueOf l0 l1 M _ h) ty_X12_valueOf tw1712 ht1 rfl (Nat.le_of_ble_eq_true rfl) ⟨rfl, rfl, ⟨by decide, by decide⟩, by decide, by decide⟩ dX12_worthOf_2 (fun r2 M3 h => ?_)
  show mj_X g 5 [(0, vR l0), (1, vI l1), (2, vI l2)] [vL r2] M3 0 0
  refine mx_aload_n (j := 0) hC dX12_worthOf_5 rfl rfl ?_
  refine mx_iload_n (j := 2) hC dX12_worthOf_6 rfl rfl ?_
  obtain ⟨ht4, h⟩ := h
  refine mx_callV (inj := mj_jI) (As := [vI l2]) (st := [vL r2]) hC (ct_X12_tableAt l0 l2 M3 _ h) ty_X12_tableAt tw1696 ht4 rfl (Nat.le_of_ble_eq_true rfl) ⟨rfl, rfl, ⟨by decide, by decide⟩, by decide, by decide⟩ dX12_worthOf_7 (fun r5 M6 h => ?_)
  show mj_X g 10 [(0, vR l0), (1, vI l1), (2, vI l2)] [vI r5, vL r2] M6 0 0
  refine mx_i2l hC dX12_worthOf_10 ?_
  refine mx_lmul hC dX12_worthOf_11 ?_
  refine mx_ldc2 (v := 10000) hC dX12_worthOf_12 tw1687 ?_
  refine mx_ldiv hC dX12_worthOf_15 (by decide) ?_
  exact mx_lret hC hE rfl dX12_worthOf_16 h

/-! methods 21. By program (wip/gen) out of the bytecode: vc_KEY: what must hold of a call; ct_KEY: then the machine does it. -/
def rm_X12_breach : Room := { frames := 3, cells := 0, slots := 0, locals := 67 }
theorem dX12_breach_0 : decode cX12_breach 0 = .ok (.aload_n 0, 1) := by decide +kernel
theorem dX12_breach_1 : decode cX12_breach 1 = .ok (.iload_n 1, 1) := by decide +kernel
theorem dX12_breach_2 : decode cX12_breach 2 = .ok (.invokevirtual 191, 3) := by decide +kernel
theorem dX12_breach_5 : decode cX12_breach 5 = .ok (.ifCond .ne 5, 3) := by decide +kernel
theorem dX12_breach_8 : decode cX12_breach 8 = .ok (.iconst (-1), 1) := by decide +kernel
theorem dX12_breach_9 : decode cX12_breach 9 = .ok (.ireturn, 1) := by decide +kernel
theorem dX12_breach_10 : decode cX12_breach 10 = .ok (.aload_n 0, 1) := by decide +kernel
theorem dX12_breach_11 : decode cX12_breach 11 = .ok (.iload_n 1, 1) := by decide +kernel
theorem dX12_breach_12 : decode cX12_breach 12 = .ok (.aload_n 0, 1) := by decide +kernel
theorem dX12_breach_13 : decode cX12_breach 13 = .ok (.getfield 151, 3) := by decide +kernel
theorem dX12_breach_16 : decode cX12_breach 16 = .ok (.invokevirtual 187, 3) := by decide +kernel
theorem dX12_breach_19 : decode cX12_breach 19 = .ok (.ifCond .ne 6, 3) := by decide +kernel
theorem dX12_breach_22 : decode cX12_breach 22 = .ok (.bipush (-3), 2) := by decide +kernel
theorem dX12_breach_24 : decode cX12_breach 24 = .ok (.ireturn, 1) := by decide +kernel
theorem dX12_breach_25 : decode cX12_breach 25 = .ok (.aload_n 0, 1) := by decide +kernel
theorem dX12_breach_26 : decode cX12_breach 26 = .ok (.getfield 40, 3) := by decide +kernel
theorem dX12_breach_29 : decode cX12_breach 29 = .ok (.iload_n 1, 1) := by decide +kernel
theorem dX12_breach_30 : decode cX12_breach 30 = .ok (.iaload, 1) := by decide +kernel
theorem dX12_breach_31 : decode cX12_breach 31 = .ok (.ifCond .lt 7, 3) := by decide +kernel
theorem dX12_breach_34 : decode cX12_breach 34 = .ok (.iconst 1, 1) := by decide +kernel
theorem dX12_breach_35 : decode cX12_breach 35 = .ok (.goto 4, 3) := by decide +kernel
theorem dX12_breach_38 : decode cX12_breach 38 = .ok (.iconst 0, 1) := by decide +kernel
theorem dX12_breach_39 : decode cX12_breach 39 = .ok (.istore_n 3, 1) := by decide +kernel
theorem dX12_breach_40 : decode cX12_breach 40 = .ok (.iload_n 3, 1) := by decide +kernel
theorem dX12_breach_41 : decode cX12_breach 41 = .ok (.iload_n 2, 1) := by decide +kernel
theorem dX12_breach_42 : decode cX12_breach 42 = .ok (.if_icmp .eq 22, 3) := by decide +kernel
theorem dX12_breach_45 : decode cX12_breach 45 = .ok (.aload_n 0, 1) := by decide +kernel
theorem dX12_breach_46 : decode cX12_breach 46 = .ok (.getfield 40, 3) := by decide +kernel
theorem dX12_breach_49 : decode cX12_breach 49 = .ok (.iload_n 1, 1) := by decide +kernel
theorem dX12_breach_50 : decode cX12_breach 50 = .ok (.iload_n 2, 1) := by decide +kernel
theorem dX12_breach_51 : decode cX12_breach 51 = .ok (.ifCond .eq 10, 3) := by decide +kernel
theorem dX12_breach_54 : decode cX12_breach 54 = .ok (.aload_n 0, 1) := by decide +kernel
theorem dX12_breach_55 : decode cX12_breach 55 = .ok (.getfield 151, 3) := by decide +kernel
theorem dX12_breach_58 : decode cX12_breach 58 = .ok (.goto 5, 3) := by decide +kernel
theorem dX12_breach_61 : decode cX12_breach 61 = .ok (.bipush (-6), 2) := by decide +kernel
theorem dX12_breach_63 : decode cX12_breach 63 = .ok (.iastore, 1) := by decide +kernel
theorem dX12_breach_64 : decode cX12_breach 64 = .ok (.iload_n 3, 1) := by decide +kernel
theorem dX12_breach_65 : decode cX12_breach 65 = .ok (.iload_n 2, 1) := by decide +kernel
theorem dX12_breach_66 : decode cX12_breach 66 = .ok (.if_icmp .eq 7, 3) := by decide +kernel
theorem dX12_breach_69 : decode cX12_breach 69 = .ok (.iconst 1, 1) := by decide +kernel
theorem dX12_breach_70 : decode cX12_breach 70 = .ok (.goto 4, 3) := by decide +kernel
theorem dX12_breach_73 : decode cX12_breach 73 = .ok (.iconst 0, 1) := by decide +kernel
theorem dX12_breach_74 : decode cX12_breach 74 = .ok (.ireturn, 1) := by decide +kernel
def vb_X12_breach_64 (post : Int32 → mj_M → Prop) (l2 : Bool) (l3 : Bool) (M : mj_M) : Prop := if (mj_b l3) = (mj_b l2) then (post 0 M) else (post 1 M)
def vb_X12_breach_63 (post : Int32 → mj_M → Prop) (l2 : Bool) (l3 : Bool) (s0 : Nat) (s1 : Int32) (s2 : Int32) (M : mj_M) : Prop := mj_tag M s0 = 101 ∧ vp_in s1 (mj_len M s0) ∧ vb_X12_breach_64 post l2 l3 (mj_wi M s0 (s1 : Int32).toNatClampNeg s2)
def vb_X12_breach_39 (post : Int32 → mj_M → Prop) (l0 : Nat) (l1 : Int32) (l2 : Bool) (s0 : Bool) (M : mj_M) : Prop := if (mj_b s0) = (mj_b l2) then (vb_X12_breach_64 post l2 s0 M) else (mj_tag M l0 = 13 ∧ if l2 = true then (vb_X12_breach_63 post l2 s0 (mj_r M l0 11) l1 (mj_i M l0 0) M) else (vb_X12_breach_63 post l2 s0 (mj_r M l0 11) l1 ((-6)) M))
def vc_X12_breach (l0 : Nat) (l1 : Int32) (l2 : Bool) (M : mj_M) (post : Int32 → mj_M → Prop) : Prop := mj_tag M l0 = 13 ∧ vc_X12_isLease l0 l1 M (fun r8 M9 => if r8 = true then (mj_tag M9 l0 = 13 ∧ vc_X12_isOn l0 l1 (mj_i M9 l0 0) M9 (fun r12 M13 => if r12 = true then (mj_tag M13 l0 = 13 ∧ mj_tag M13 (mj_r M13 l0 11) = 101 ∧ vp_in l1 (mj_len M13 (mj_r M13 l0 11)) ∧ if (mj_i M13 (mj_r M13 l0 11) (l1 : Int32).toNatClampNeg) < 0 then (vb_X12_breach_39 post l0 l1 l2 false M13) else (vb_X12_breach_39 post l0 l1 l2 true M13)) else (post ((-3)) M13))) else (post ((-1)) M9))
set_option maxHeartbeats 4000000 in
set_option maxRecDepth 100000 in
theorem xb_X12_breach_64 {g : mj_G} {post : Int32 → mj_M → Prop} (hC : mj_C g yX12_breach cX12_breach 4 (some .int) rm_X12_breach) (hE : mj_E g mj_jI post 0 0) (l2 : Bool) (l3 : Bool) (M : mj_M) (h : vb_X12_breach_64 post l2 l3 M) : mj_X g 64 [(2, vI (mj_b l2)), (3, vI (mj_b l3))] [] M 0 0 := by
  simp only [vb_X12_breach_64] at h
  refine mx_iload_n (j := 1) hC dX12_breach_64 rfl rfl ?_
  refine mx_iload_n (j := 0) hC dX12_breach_65 rfl rfl ?_
  refine mx_icmpeq (tgt := 73) hC dX12_breach_66 (by decide) (fun hc1 => ?_) (fun hc1 => ?_)
  · replace h := mj_yy hc1 h
    refine mx_iconst (v := 0) hC dX12_breach_73 (by decide) ?_
    exact mx_iret hC hE rfl dX12_breach_74 h
  · replace h := mj_nn hc1 h
    refine mx_iconst (v := 1) hC dX12_breach_69 (by decide) ?_
    refine mx_goto (tgt := 74) hC dX12_breach_70 (by decide) ?_
    exact mx_iret hC hE rfl dX12_breach_74 h
set_option maxHeartbeats 4000000 in
set_option maxRecDepth 100000 in
theorem xb_X12_breach_63 {g : mj_G} {post : Int32 → mj_M → Prop} (hC : mj_C g yX12_breach cX12_breach 4 (some .int) rm_X12_breach) (hE : mj_E g mj_jI post 0 0) (l2 : Bool) (l3 : Bool) (s0 : Nat) (s1 : Int32) (s2 : Int32) (M : mj_M) (h : vb_X12_breach_63 post l2 l3 s0 s1 s2 M) : mj_X g 63 [(2, vI (mj_b l2)), (3, vI (mj_b l3))] [vI s2, vI s1, vR s0] M 0 0 := by
  simp only [vb_X12_breach_63] at h
  obtain ⟨ht2, h⟩ := h
  obtain ⟨hi3, h⟩ := h
  refine mx_iastore hC ht2 hi3 dX12_breach_63 ?_
  refine mx_sub (L' := [(2, vI (mj_b l2)), (3, vI (mj_b l3))]) [0, 1] rfl ?_
  exact show mj_X g 64 [(2, vI (mj_b l2)), (3, vI (mj_b l3))] [] (mj_wi M s0 (s1 : Int32).toNatClampNeg s2) 0 0 from (xb_X12_breach_64 hC hE l2 l3 (mj_wi M s0 (s1 : Int32).toNatClampNeg s2) h)
set_option maxHeartbeats 4000000 in
set_option maxRecDepth 100000 in
theorem xb_X12_breach_39 {g : mj_G} {post : Int32 → mj_M → Prop} (hC : mj_C g yX12_breach cX12_breach 4 (some .int) rm_X12_breach) (hE : mj_E g mj_jI post 0 0) (l0 : Nat) (l1 : Int32) (l2 : Bool) (s0 : Bool) (M : mj_M) (h : vb_X12_breach_39 post l0 l1 l2 s0 M) : mj_X g 39 [(0, vR l0), (1, vI l1), (2, vI (mj_b l2))] [vI (mj_b s0)] M 0 0 := by
  simp only [vb_X12_breach_39] at h
  refine mx_istore_n (L' := [(3, vI (mj_b s0)), (0, vR l0), (1, vI l1), (2, vI (mj_b l2))]) hC dX12_breach_39 rfl (by decide) rfl ?_
  refine mx_iload_n (j := 0) hC dX12_breach_40 rfl rfl ?_
  refine mx_iload_n (j := 3) hC dX12_breach_41 rfl rfl ?_
  refine mx_icmpeq (tgt := 64) hC dX12_breach_42 (by decide) (fun hc4 => ?_) (fun hc4 => ?_)
  · replace h := mj_yy hc4 h
    refine mx_sub (L' := [(2, vI (mj_b l2)), (3, vI (mj_b s0))]) [3, 0] rfl ?_
    exact show mj_X g 64 [(2, vI (mj_b l2)), (3, vI (mj_b s0))] [] M 0 0 from (xb_X12_breach_64 hC hE l2 s0 M h)
  · replace h := mj_nn hc4 h
    refine mx_aload_n (j := 1) hC dX12_breach_45 rfl rfl ?_
    obtain ⟨ht5, h⟩ := h
    refine mx_get (v := vR (mj_r M l0 11)) hC tf_X12_40 ht5 rfl dX12_breach_46 ?_
    refine mx_iload_n (j := 2) hC dX12_breach_49 rfl rfl ?_
    refine mx_iload_n (j := 3) hC dX12_breach_50 rfl rfl ?_
    refine mx_ifeqB (tgt := 61) hC dX12_breach_51 (by decide) (fun hc6 => ?_) (fun hc6 => ?_)
    · replace h := mj_nn hc6 h
      refine mx_bipush (v := (-6)) hC dX12_breach_61 (by decide) ?_
      refine mx_sub (L' := [(2, vI (mj_b l2)), (3, vI (mj_b s0))]) [3, 0] rfl ?_
      exact show mj_X g 63 [(2, vI (mj_b l2)), (3, vI (mj_b s0))] [vI ((-6)), vI l1, vR (mj_r M l0 11)] M 0 0 from (xb_X12_breach_63 hC hE l2 s0 (mj_r M l0 11) l1 ((-6)) M h)
    · replace h := mj_yy hc6 h
      refine mx_aload_n (j := 1) hC dX12_breach_54 rfl rfl ?_
      refine mx_get (v := vI (mj_i M l0 0)) hC tf_X12_151 ht5 rfl dX12_breach_55 ?_
      refine mx_goto (tgt := 63) hC dX12_breach_58 (by decide) ?_
      refine mx_sub (L' := [(2, vI (mj_b l2)), (3, vI (mj_b s0))]) [3, 0] rfl ?_
      exact show mj_X g 63 [(2, vI (mj_b l2)), (3, vI (mj_b s0))] [vI (mj_i M l0 0), vI l1, vR (mj_r M l0 11)] M 0 0 from (xb_X12_breach_63 hC hE l2 s0 (mj_r M l0 11) l1 (mj_i M l0 0) M h)
set_option maxHeartbeats 4000000 in
set_option maxRecDepth 100000 in
theorem ct_X12_breach {l : Launch} {base : Nat} {D : va_G} {A : ClassId × ClassId × ClassId} (l0 : Nat) (l1 : Int32) (l2 : Bool) (M : mj_M) (post : Int32 → mj_M → Prop) (h : vc_X12_breach l0 l1 l2 M post) : mj_Met l base D A mj_jI yX12_breach cX12_breach 4 (some .int) rm_X12_breach 0 0 [vR l0, vI l1, vI (mj_b l2)] M post := by
  refine mj_entry (by decide +kernel) (Nat.le_of_ble_eq_true rfl) (fun g hC hE h1 h2 h3 h4 => ?_)
  show mj_X g 0 [(0, vR l0), (1, vI l1), (2, vI (mj_b l2))] [] M 0 0
  simp only [vc_X12_breach] at h
  refine mx_aload_n (j := 0) hC dX12_breach_0 rfl rfl ?_
  refine mx_iload_n (j := 1) hC dX12_breach_1 rfl rfl ?_
  obtain ⟨ht7, h⟩ := h
  refine mx_callV (inj := mj_jB) (As := [vI l1]) (st := []) hC (ct_X12_isLease l0 l1 M _ h) ty_X12_isLease tw1448 ht7 rfl (Nat.le_of_ble_eq_true rfl) ⟨rfl, rfl, ⟨by decide, by decide⟩, by decide, by decide⟩ dX12_breach_2 (fun r8 M9 h => ?_)
  show mj_X g 5 [(0, vR l0), (1, vI l1), (2, vI (mj_b l2))] [vI (mj_b r8)] M9 0 0
  refine mx_ifneB (tgt := 10) hC dX12_breach_5 (by decide) (fun hc10 => ?_) (fun hc10 => ?_)
  · replace h := mj_yy hc10 h
    refine mx_aload_n (j := 0) hC dX12_breach_10 rfl rfl ?_
    refine mx_iload_n (j := 1) hC dX12_breach_11 rfl rfl ?_
    refine mx_aload_n (j := 0) hC dX12_breach_12 rfl rfl ?_
    obtain ⟨ht11, h⟩ := h
    refine mx_get (v := vI (mj_i M9 l0 0)) hC tf_X12_151 ht11 rfl dX12_breach_13 ?_
    refine mx_callV (inj := mj_jB) (As := [vI l1, vI (mj_i M9 l0 0)]) (st := []) hC (ct_X12_isOn l0 l1 (mj_i M9 l0 0) M9 _ h) ty_X12_isOn tw1440 ht11 rfl (Nat.le_of_ble_eq_true rfl) ⟨rfl, rfl, ⟨by decide, by decide⟩, by decide, by decide⟩ dX12_breach_16 (fun r12 M13 h => ?_)
    show mj_X g 19 [(0, vR l0), (1, vI l1), (2, vI (mj_b l2))] [vI (mj_b r12)] M13 0 0
    refine mx_ifneB (tgt := 25) hC dX12_breach_19 (by decide) (fun hc14 => ?_) (fun hc14 => ?_)
    · replace h := mj_yy hc14 h
      refine mx_aload_n (j := 0) hC dX12_breach_25 rfl rfl ?_
      obtain ⟨ht15, h⟩ := h
      refine mx_get (v := vR (mj_r M13 l0 11)) hC tf_X12_40 ht15 rfl dX12_breach_26 ?_
      refine mx_iload_n (j := 1) hC dX12_breach_29 rfl rfl ?_
      obtain ⟨ht16, h⟩ := h
      obtain ⟨hi17, h⟩ := h
      refine mx_iaload hC ht16 hi17 dX12_breach_30 ?_
      refine mx_iflt (tgt := 38) hC dX12_breach_31 (by decide) (fun hc18 => ?_) (fun hc18 => ?_)
      · replace h := mj_yy hc18 h
        refine mx_iconst (v := 0) hC dX12_breach_38 (by decide) ?_
        refine mx_sub (L' := [(0, vR l0), (1, vI l1), (2, vI (mj_b l2))]) [0, 1, 2] rfl ?_
        exact show mj_X g 39 [(0, vR l0), (1, vI l1), (2, vI (mj_b l2))] [vI (mj_b false)] M13 0 0 from (xb_X12_breach_39 hC hE l0 l1 l2 false M13 h)
      · replace h := mj_nn hc18 h
        refine mx_iconst (v := 1) hC dX12_breach_34 (by decide) ?_
        refine mx_goto (tgt := 39) hC dX12_breach_35 (by decide) ?_
        refine mx_sub (L' := [(0, vR l0), (1, vI l1), (2, vI (mj_b l2))]) [0, 1, 2] rfl ?_
        exact show mj_X g 39 [(0, vR l0), (1, vI l1), (2, vI (mj_b l2))] [vI (mj_b true)] M13 0 0 from (xb_X12_breach_39 hC hE l0 l1 l2 true M13 h)
    · replace h := mj_nn hc14 h
      refine mx_bipush (v := (-3)) hC dX12_breach_22 (by decide) ?_
      exact mx_iret hC hE rfl dX12_breach_24 h
  · replace h := mj_nn hc10 h
    refine mx_iconst (v := (-1)) hC dX12_breach_8 (by decide) ?_
    exact mx_iret hC hE rfl dX12_breach_9 h
def rm_X12_forfeit : Room := { frames := 3, cells := 0, slots := 0, locals := 70 }
theorem dX12_forfeit_0 : decode cX12_forfeit 0 = .ok (.aload_n 0, 1) := by decide +kernel
theorem dX12_forfeit_1 : decode cX12_forfeit 1 = .ok (.iload_n 1, 1) := by decide +kernel
theorem dX12_forfeit_2 : decode cX12_forfeit 2 = .ok (.invokevirtual 191, 3) := by decide +kernel
theorem dX12_forfeit_5 : decode cX12_forfeit 5 = .ok (.ifCond .ne 5, 3) := by decide +kernel
theorem dX12_forfeit_8 : decode cX12_forfeit 8 = .ok (.iconst (-1), 1) := by decide +kernel
theorem dX12_forfeit_9 : decode cX12_forfeit 9 = .ok (.ireturn, 1) := by decide +kernel
theorem dX12_forfeit_10 : decode cX12_forfeit 10 = .ok (.aload_n 0, 1) := by decide +kernel
theorem dX12_forfeit_11 : decode cX12_forfeit 11 = .ok (.iload_n 1, 1) := by decide +kernel
theorem dX12_forfeit_12 : decode cX12_forfeit 12 = .ok (.aload_n 0, 1) := by decide +kernel
theorem dX12_forfeit_13 : decode cX12_forfeit 13 = .ok (.getfield 151, 3) := by decide +kernel
theorem dX12_forfeit_16 : decode cX12_forfeit 16 = .ok (.invokevirtual 187, 3) := by decide +kernel
theorem dX12_forfeit_19 : decode cX12_forfeit 19 = .ok (.ifCond .ne 6, 3) := by decide +kernel
theorem dX12_forfeit_22 : decode cX12_forfeit 22 = .ok (.bipush (-3), 2) := by decide +kernel
theorem dX12_forfeit_24 : decode cX12_forfeit 24 = .ok (.ireturn, 1) := by decide +kernel
theorem dX12_forfeit_25 : decode cX12_forfeit 25 = .ok (.aload_n 0, 1) := by decide +kernel
theorem dX12_forfeit_26 : decode cX12_forfeit 26 = .ok (.getfield 40, 3) := by decide +kernel
theorem dX12_forfeit_29 : decode cX12_forfeit 29 = .ok (.iload_n 1, 1) := by decide +kernel
theorem dX12_forfeit_30 : decode cX12_forfeit 30 = .ok (.iaload, 1) := by decide +kernel
theorem dX12_forfeit_31 : decode cX12_forfeit 31 = .ok (.ifCond .lt 19, 3) := by decide +kernel
theorem dX12_forfeit_34 : decode cX12_forfeit 34 = .ok (.aload_n 0, 1) := by decide +kernel
theorem dX12_forfeit_35 : decode cX12_forfeit 35 = .ok (.getfield 151, 3) := by decide +kernel
theorem dX12_forfeit_38 : decode cX12_forfeit 38 = .ok (.aload_n 0, 1) := by decide +kernel
theorem dX12_forfeit_39 : decode cX12_forfeit 39 = .ok (.getfield 40, 3) := by decide +kernel
theorem dX12_forfeit_42 : decode cX12_forfeit 42 = .ok (.iload_n 1, 1) := by decide +kernel
theorem dX12_forfeit_43 : decode cX12_forfeit 43 = .ok (.iaload, 1) := by decide +kernel
theorem dX12_forfeit_44 : decode cX12_forfeit 44 = .ok (.isub, 1) := by decide +kernel
theorem dX12_forfeit_45 : decode cX12_forfeit 45 = .ok (.bipush 30, 2) := by decide +kernel
theorem dX12_forfeit_47 : decode cX12_forfeit 47 = .ok (.if_icmp .ge 6, 3) := by decide +kernel
theorem dX12_forfeit_50 : decode cX12_forfeit 50 = .ok (.bipush (-5), 2) := by decide +kernel
theorem dX12_forfeit_52 : decode cX12_forfeit 52 = .ok (.ireturn, 1) := by decide +kernel
theorem dX12_forfeit_53 : decode cX12_forfeit 53 = .ok (.aload_n 0, 1) := by decide +kernel
theorem dX12_forfeit_54 : decode cX12_forfeit 54 = .ok (.iload_n 1, 1) := by decide +kernel
theorem dX12_forfeit_55 : decode cX12_forfeit 55 = .ok (.iconst 2, 1) := by decide +kernel
theorem dX12_forfeit_56 : decode cX12_forfeit 56 = .ok (.aload_n 0, 1) := by decide +kernel
theorem dX12_forfeit_57 : decode cX12_forfeit 57 = .ok (.getfield 151, 3) := by decide +kernel
theorem dX12_forfeit_60 : decode cX12_forfeit 60 = .ok (.invokevirtual 197, 3) := by decide +kernel
theorem dX12_forfeit_63 : decode cX12_forfeit 63 = .ok (.aload_n 0, 1) := by decide +kernel
theorem dX12_forfeit_64 : decode cX12_forfeit 64 = .ok (.iload_n 1, 1) := by decide +kernel
theorem dX12_forfeit_65 : decode cX12_forfeit 65 = .ok (.iload_n 1, 1) := by decide +kernel
theorem dX12_forfeit_66 : decode cX12_forfeit 66 = .ok (.invokevirtual 316, 3) := by decide +kernel
theorem dX12_forfeit_69 : decode cX12_forfeit 69 = .ok (.ireturn, 1) := by decide +kernel
def vc_X12_forfeit (l0 : Nat) (l1 : Int32) (M : mj_M) (post : Int32 → mj_M → Prop) : Prop := mj_tag M l0 = 13 ∧ vc_X12_isLease l0 l1 M (fun r2 M3 => if r2 = true then (mj_tag M3 l0 = 13 ∧ vc_X12_isOn l0 l1 (mj_i M3 l0 0) M3 (fun r6 M7 => if r6 = true then (mj_tag M7 l0 = 13 ∧ mj_tag M7 (mj_r M7 l0 11) = 101 ∧ vp_in l1 (mj_len M7 (mj_r M7 l0 11)) ∧ if (mj_i M7 (mj_r M7 l0 11) (l1 : Int32).toNatClampNeg) < 0 then (post ((-5)) M7) else (if 30 ≤ ((mj_i M7 l0 0) - (mj_i M7 (mj_r M7 l0 11) (l1 : Int32).toNatClampNeg)) then (vc_X12_close l0 l1 2 (mj_i M7 l0 0) M7 (fun _ M14 => mj_tag M14 l0 = 13 ∧ vc_X12_fallAll l0 l1 l1 M14 (fun r16 M17 => post r16 M17))) else (post ((-5)) M7))) else (post ((-3)) M7))) else (post ((-1)) M3))
set_option maxHeartbeats 4000000 in
set_option maxRecDepth 100000 in
theorem ct_X12_forfeit {l : Launch} {base : Nat} {D : va_G} {A : ClassId × ClassId × ClassId} (l0 : Nat) (l1 : Int32) (M : mj_M) (post : Int32 → mj_M → Prop) (h : vc_X12_forfeit l0 l1 M post) : mj_Met l base D A mj_jI yX12_forfeit cX12_forfeit 2 (some .int) rm_X12_forfeit 0 0 [vR l0, vI l1] M post := by
  refine mj_entry (by decide +kernel) (Nat.le_of_ble_eq_true rfl) (fun g hC hE h1 h2 h3 h4 => ?_)
  show mj_X g 0 [(0, vR l0), (1, vI l1)] [] M 0 0
  simp only [vc_X12_forfeit] at h
  refine mx_aload_n (j := 0) hC dX12_forfeit_0 rfl rfl ?_
  refine mx_iload_n (j := 1) hC dX12_forfeit_1 rfl rfl ?_
  obtain ⟨ht1, h⟩ := h
  refine mx_callV (inj := mj_jB) (As := [vI l1]) (st := []) hC (ct_X12_isLease l0 l1 M _ h) ty_X12_isLease tw1448 ht1 rfl (Nat.le_of_ble_eq_true rfl) ⟨rfl, rfl, ⟨by decide, by decide⟩, by decide, by decide⟩ dX12_forfeit_2 (fun r2 M3 h => ?_)
  show mj_X g 5 [(0, vR l0), (1, vI l1)] [vI (mj_b r2)] M3 0 0
  refine mx_ifneB (tgt := 10) hC dX12_forfeit_5 (by decide) (fun hc4 => ?_) (fun hc4 => ?_)
  · replace h := mj_yy hc4 h
    refine mx_aload_n (j := 0) hC dX12_forfeit_10 rfl rfl ?_
    refine mx_iload_n (j := 1) hC dX12_forfeit_11 rfl rfl ?_
    refine mx_aload_n (j := 0) hC dX12_forfeit_12 rfl rfl ?_
    obtain ⟨ht5, h⟩ := h
    refine mx_get (v := vI (mj_i M3 l0 0)) hC tf_X12_151 ht5 rfl dX12_forfeit_13 ?_
    refine mx_callV (inj := mj_jB) (As := [vI l1, vI (mj_i M3 l0 0)]) (st := []) hC (ct_X12_isOn l0 l1 (mj_i M3 l0 0) M3 _ h) ty_X12_isOn tw1440 ht5 rfl (Nat.le_of_ble_eq_true rfl) ⟨rfl, rfl, ⟨by decide, by decide⟩, by decide, by decide⟩ dX12_forfeit_16 (fun r6 M7 h => ?_)
    show mj_X g 19 [(0, vR l0), (1, vI l1)] [vI (mj_b r6)] M7 0 0
    refine mx_ifneB (tgt := 25) hC dX12_forfeit_19 (by decide) (fun hc8 => ?_) (fun hc8 => ?_)
    · replace h := mj_yy hc8 h
      refine mx_aload_n (j := 0) hC dX12_forfeit_25 rfl rfl ?_
      obtain ⟨ht9, h⟩ := h
      refine mx_get (v := vR (mj_r M7 l0 11)) hC tf_X12_40 ht9 rfl dX12_forfeit_26 ?_
      refine mx_iload_n (j := 1) hC dX12_forfeit_29 rfl rfl ?_
      obtain ⟨ht10, h⟩ := h
      obtain ⟨hi11, h⟩ := h
      refine mx_iaload hC ht10 hi11 dX12_forfeit_30 ?_
      refine mx_iflt (tgt := 50) hC dX12_forfeit_31 (by decide) (fun hc12 => ?_) (fun hc12 => ?_)
      · replace h := mj_yy hc12 h
        refine mx_bipush (v := (-5)) hC dX12_forfeit_50 (by decide) ?_
        exact mx_iret hC hE rfl dX12_forfeit_52 h
      · replace h := mj_nn hc12 h
        refine mx_aload_n (j := 0) hC dX12_forfeit_34 rfl rfl ?_
        refine mx_get (v := vI (mj_i M7 l0 0)) hC tf_X12_151 ht9 rfl dX12_forfeit_35 ?_
        refine mx_aload_n (j := 0) hC dX12_forfeit_38 rfl rfl ?_
        refine mx_get (v := vR (mj_r M7 l0 11)) hC tf_X12_40 ht9 rfl dX12_forfeit_39 ?_
        refine mx_iload_n (j := 1) hC dX12_forfeit_42 rfl rfl ?_
        refine mx_iaload hC ht10 hi11 dX12_forfeit_43 ?_
        refine mx_isub hC dX12_forfeit_44 ?_
        refine mx_bipush (v := 30) hC dX12_forfeit_45 (by decide) ?_
        refine mx_icmpge (tgt := 53) hC dX12_forfeit_47 (by decide) (fun hc13 => ?_) (fun hc13 => ?_)
        · replace h := mj_yy hc13 h
          refine mx_aload_n (j := 0) hC dX12_forfeit_53 rfl rfl ?_
          refine mx_iload_n (j := 1) hC dX12_forfeit_54 rfl rfl ?_
          refine mx_iconst (v := 2) hC dX12_forfeit_55 (by decide) ?_
          refine mx_aload_n (j := 0) hC dX12_forfeit_56 rfl rfl ?_
          refine mx_get (v := vI (mj_i M7 l0 0)) hC tf_X12_151 ht9 rfl dX12_forfeit_57 ?_
          refine mx_callV (inj := mj_jV) (As := [vI l1, vI 2, vI (mj_i M7 l0 0)]) (st := []) hC (ct_X12_close l0 l1 2 (mj_i M7 l0 0) M7 _ h) ty_X12_close tw1460 ht9 rfl (Nat.le_of_ble_eq_true rfl) ⟨rfl, rfl, ⟨by decide, by decide⟩, by decide, by decide⟩ dX12_forfeit_60 (fun _ M14 h => ?_)
          show mj_X g 63 [(0, vR l0), (1, vI l1)] [] M14 0 0
          refine mx_aload_n (j := 0) hC dX12_forfeit_63 rfl rfl ?_
          refine mx_iload_n (j := 1) hC dX12_forfeit_64 rfl rfl ?_
          refine mx_iload_n (j := 1) hC dX12_forfeit_65 rfl rfl ?_
          obtain ⟨ht15, h⟩ := h
          refine mx_callV (inj := mj_jI) (As := [vI l1, vI l1]) (st := []) hC (ct_X12_fallAll l0 l1 l1 M14 _ h) ty_X12_fallAll tw1665 ht15 rfl (Nat.le_of_ble_eq_true rfl) ⟨rfl, rfl, ⟨by decide, by decide⟩, by decide, by decide⟩ dX12_forfeit_66 (fun r16 M17 h => ?_)
          show mj_X g 69 [(0, vR l0), (1, vI l1)] [vI r16] M17 0 0
          exact mx_iret hC hE rfl dX12_forfeit_69 h
        · replace h := mj_nn hc13 h
          refine mx_bipush (v := (-5)) hC dX12_forfeit_50 (by decide) ?_
          exact mx_iret hC hE rfl dX12_forfeit_52 h
    · replace h := mj_nn hc8 h
      refine mx_bipush (v := (-3)) hC dX12_forfeit_22 (by decide) ?_
      exact mx_iret hC hE rfl dX12_forfeit_24 h
  · replace h := mj_nn hc4 h
    refine mx_iconst (v := (-1)) hC dX12_forfeit_8 (by decide) ?_
    exact mx_iret hC hE rfl dX12_forfeit_9 h
def rm_X12_relieve : Room := { frames := 4, cells := 0, slots := 0, locals := 94 }
theorem dX12_relieve_0 : decode cX12_relieve 0 = .ok (.aload_n 0, 1) := by decide +kernel
theorem dX12_relieve_1 : decode cX12_relieve 1 = .ok (.iload_n 1, 1) := by decide +kernel
theorem dX12_relieve_2 : decode cX12_relieve 2 = .ok (.invokevirtual 191, 3) := by decide +kernel
theorem dX12_relieve_5 : decode cX12_relieve 5 = .ok (.ifCond .ne 5, 3) := by decide +kernel
theorem dX12_relieve_8 : decode cX12_relieve 8 = .ok (.iconst (-1), 1) := by decide +kernel
theorem dX12_relieve_9 : decode cX12_relieve 9 = .ok (.ireturn, 1) := by decide +kernel
theorem dX12_relieve_10 : decode cX12_relieve 10 = .ok (.aload_n 0, 1) := by decide +kernel
theorem dX12_relieve_11 : decode cX12_relieve 11 = .ok (.getfield 25, 3) := by decide +kernel
theorem dX12_relieve_14 : decode cX12_relieve 14 = .ok (.iload_n 1, 1) := by decide +kernel
theorem dX12_relieve_15 : decode cX12_relieve 15 = .ok (.iaload, 1) := by decide +kernel
theorem dX12_relieve_16 : decode cX12_relieve 16 = .ok (.iconst 2, 1) := by decide +kernel
theorem dX12_relieve_17 : decode cX12_relieve 17 = .ok (.if_icmp .ne 20, 3) := by decide +kernel
theorem dX12_relieve_20 : decode cX12_relieve 20 = .ok (.aload_n 0, 1) := by decide +kernel
theorem dX12_relieve_21 : decode cX12_relieve 21 = .ok (.getfield 151, 3) := by decide +kernel
theorem dX12_relieve_24 : decode cX12_relieve 24 = .ok (.aload_n 0, 1) := by decide +kernel
theorem dX12_relieve_25 : decode cX12_relieve 25 = .ok (.getfield 22, 3) := by decide +kernel
theorem dX12_relieve_28 : decode cX12_relieve 28 = .ok (.iload_n 1, 1) := by decide +kernel
theorem dX12_relieve_29 : decode cX12_relieve 29 = .ok (.iaload, 1) := by decide +kernel
theorem dX12_relieve_30 : decode cX12_relieve 30 = .ok (.isub, 1) := by decide +kernel
theorem dX12_relieve_31 : decode cX12_relieve 31 = .ok (.sipush 180, 3) := by decide +kernel
theorem dX12_relieve_34 : decode cX12_relieve 34 = .ok (.if_icmp .le 6, 3) := by decide +kernel
theorem dX12_relieve_37 : decode cX12_relieve 37 = .ok (.bipush (-3), 2) := by decide +kernel
theorem dX12_relieve_39 : decode cX12_relieve 39 = .ok (.ireturn, 1) := by decide +kernel
theorem dX12_relieve_40 : decode cX12_relieve 40 = .ok (.aload_n 0, 1) := by decide +kernel
theorem dX12_relieve_41 : decode cX12_relieve 41 = .ok (.getfield 13, 3) := by decide +kernel
theorem dX12_relieve_44 : decode cX12_relieve 44 = .ok (.iload_n 1, 1) := by decide +kernel
theorem dX12_relieve_45 : decode cX12_relieve 45 = .ok (.iaload, 1) := by decide +kernel
theorem dX12_relieve_46 : decode cX12_relieve 46 = .ok (.aload_n 0, 1) := by decide +kernel
theorem dX12_relieve_47 : decode cX12_relieve 47 = .ok (.getfield 13, 3) := by decide +kernel
theorem dX12_relieve_50 : decode cX12_relieve 50 = .ok (.aload_n 0, 1) := by decide +kernel
theorem dX12_relieve_51 : decode cX12_relieve 51 = .ok (.getfield 7, 3) := by decide +kernel
theorem dX12_relieve_54 : decode cX12_relieve 54 = .ok (.iload_n 1, 1) := by decide +kernel
theorem dX12_relieve_55 : decode cX12_relieve 55 = .ok (.iaload, 1) := by decide +kernel
theorem dX12_relieve_56 : decode cX12_relieve 56 = .ok (.iaload, 1) := by decide +kernel
theorem dX12_relieve_57 : decode cX12_relieve 57 = .ok (.iconst (-1), 1) := by decide +kernel
theorem dX12_relieve_58 : decode cX12_relieve 58 = .ok (.ixor, 1) := by decide +kernel
theorem dX12_relieve_59 : decode cX12_relieve 59 = .ok (.iand, 1) := by decide +kernel
theorem dX12_relieve_60 : decode cX12_relieve 60 = .ok (.ifCond .eq 7, 3) := by decide +kernel
theorem dX12_relieve_63 : decode cX12_relieve 63 = .ok (.iconst 1, 1) := by decide +kernel
theorem dX12_relieve_64 : decode cX12_relieve 64 = .ok (.goto 4, 3) := by decide +kernel
theorem dX12_relieve_67 : decode cX12_relieve 67 = .ok (.iconst 0, 1) := by decide +kernel
theorem dX12_relieve_68 : decode cX12_relieve 68 = .ok (.istore_n 2, 1) := by decide +kernel
theorem dX12_relieve_69 : decode cX12_relieve 69 = .ok (.aload_n 0, 1) := by decide +kernel
theorem dX12_relieve_70 : decode cX12_relieve 70 = .ok (.aload_n 0, 1) := by decide +kernel
theorem dX12_relieve_71 : decode cX12_relieve 71 = .ok (.getfield 7, 3) := by decide +kernel
theorem dX12_relieve_74 : decode cX12_relieve 74 = .ok (.iload_n 1, 1) := by decide +kernel
theorem dX12_relieve_75 : decode cX12_relieve 75 = .ok (.iaload, 1) := by decide +kernel
theorem dX12_relieve_76 : decode cX12_relieve 76 = .ok (.aload_n 0, 1) := by decide +kernel
theorem dX12_relieve_77 : decode cX12_relieve 77 = .ok (.getfield 151, 3) := by decide +kernel
theorem dX12_relieve_80 : decode cX12_relieve 80 = .ok (.invokevirtual 187, 3) := by decide +kernel
theorem dX12_relieve_83 : decode cX12_relieve 83 = .ok (.ifCond .eq 34, 3) := by decide +kernel
theorem dX12_relieve_86 : decode cX12_relieve 86 = .ok (.iload_n 2, 1) := by decide +kernel
theorem dX12_relieve_87 : decode cX12_relieve 87 = .ok (.ifCond .ne 30, 3) := by decide +kernel
theorem dX12_relieve_90 : decode cX12_relieve 90 = .ok (.aload_n 0, 1) := by decide +kernel
theorem dX12_relieve_91 : decode cX12_relieve 91 = .ok (.iload_n 1, 1) := by decide +kernel
theorem dX12_relieve_92 : decode cX12_relieve 92 = .ok (.aload_n 0, 1) := by decide +kernel
theorem dX12_relieve_93 : decode cX12_relieve 93 = .ok (.getfield 16, 3) := by decide +kernel
theorem dX12_relieve_96 : decode cX12_relieve 96 = .ok (.iload_n 1, 1) := by decide +kernel
theorem dX12_relieve_97 : decode cX12_relieve 97 = .ok (.iaload, 1) := by decide +kernel
theorem dX12_relieve_98 : decode cX12_relieve 98 = .ok (.aload_n 0, 1) := by decide +kernel
theorem dX12_relieve_99 : decode cX12_relieve 99 = .ok (.getfield 151, 3) := by decide +kernel
theorem dX12_relieve_102 : decode cX12_relieve 102 = .ok (.invokestatic 165, 3) := by decide +kernel
theorem dX12_relieve_105 : decode cX12_relieve 105 = .ok (.aload_n 0, 1) := by decide +kernel
theorem dX12_relieve_106 : decode cX12_relieve 106 = .ok (.getfield 19, 3) := by decide +kernel
theorem dX12_relieve_109 : decode cX12_relieve 109 = .ok (.iload_n 1, 1) := by decide +kernel
theorem dX12_relieve_110 : decode cX12_relieve 110 = .ok (.iaload, 1) := by decide +kernel
theorem dX12_relieve_111 : decode cX12_relieve 111 = .ok (.invokevirtual 302, 3) := by decide +kernel
theorem dX12_relieve_114 : decode cX12_relieve 114 = .ok (.ifCond .eq 6, 3) := by decide +kernel
theorem dX12_relieve_117 : decode cX12_relieve 117 = .ok (.bipush (-5), 2) := by decide +kernel
theorem dX12_relieve_119 : decode cX12_relieve 119 = .ok (.ireturn, 1) := by decide +kernel
theorem dX12_relieve_120 : decode cX12_relieve 120 = .ok (.aload_n 0, 1) := by decide +kernel
theorem dX12_relieve_121 : decode cX12_relieve 121 = .ok (.getfield 25, 3) := by decide +kernel
theorem dX12_relieve_124 : decode cX12_relieve 124 = .ok (.iload_n 1, 1) := by decide +kernel
theorem dX12_relieve_125 : decode cX12_relieve 125 = .ok (.iconst 0, 1) := by decide +kernel
theorem dX12_relieve_126 : decode cX12_relieve 126 = .ok (.iastore, 1) := by decide +kernel
theorem dX12_relieve_127 : decode cX12_relieve 127 = .ok (.aload_n 0, 1) := by decide +kernel
theorem dX12_relieve_128 : decode cX12_relieve 128 = .ok (.getfield 40, 3) := by decide +kernel
theorem dX12_relieve_131 : decode cX12_relieve 131 = .ok (.iload_n 1, 1) := by decide +kernel
theorem dX12_relieve_132 : decode cX12_relieve 132 = .ok (.bipush (-6), 2) := by decide +kernel
theorem dX12_relieve_134 : decode cX12_relieve 134 = .ok (.iastore, 1) := by decide +kernel
theorem dX12_relieve_135 : decode cX12_relieve 135 = .ok (.iconst 1, 1) := by decide +kernel
theorem dX12_relieve_136 : decode cX12_relieve 136 = .ok (.istore_n 3, 1) := by decide +kernel
theorem dX12_relieve_137 : decode cX12_relieve 137 = .ok (.iconst 0, 1) := by decide +kernel
theorem dX12_relieve_138 : decode cX12_relieve 138 = .ok (.istore 4, 2) := by decide +kernel
theorem dX12_relieve_140 : decode cX12_relieve 140 = .ok (.iload 4, 2) := by decide +kernel
theorem dX12_relieve_142 : decode cX12_relieve 142 = .ok (.aload_n 0, 1) := by decide +kernel
theorem dX12_relieve_143 : decode cX12_relieve 143 = .ok (.getfield 130, 3) := by decide +kernel
theorem dX12_relieve_146 : decode cX12_relieve 146 = .ok (.if_icmp .ge 51, 3) := by decide +kernel
theorem dX12_relieve_149 : decode cX12_relieve 149 = .ok (.aload_n 0, 1) := by decide +kernel
theorem dX12_relieve_150 : decode cX12_relieve 150 = .ok (.getfield 25, 3) := by decide +kernel
theorem dX12_relieve_153 : decode cX12_relieve 153 = .ok (.iload 4, 2) := by decide +kernel
theorem dX12_relieve_155 : decode cX12_relieve 155 = .ok (.iaload, 1) := by decide +kernel
theorem dX12_relieve_156 : decode cX12_relieve 156 = .ok (.iconst 4, 1) := by decide +kernel
theorem dX12_relieve_157 : decode cX12_relieve 157 = .ok (.if_icmp .ne 34, 3) := by decide +kernel
theorem dX12_relieve_160 : decode cX12_relieve 160 = .ok (.aload_n 0, 1) := by decide +kernel
theorem dX12_relieve_161 : decode cX12_relieve 161 = .ok (.getfield 43, 3) := by decide +kernel
theorem dX12_relieve_164 : decode cX12_relieve 164 = .ok (.iload 4, 2) := by decide +kernel
theorem dX12_relieve_166 : decode cX12_relieve 166 = .ok (.iaload, 1) := by decide +kernel
theorem dX12_relieve_167 : decode cX12_relieve 167 = .ok (.iload_n 1, 1) := by decide +kernel
theorem dX12_relieve_168 : decode cX12_relieve 168 = .ok (.if_icmp .ne 23, 3) := by decide +kernel
theorem dX12_relieve_171 : decode cX12_relieve 171 = .ok (.aload_n 0, 1) := by decide +kernel
theorem dX12_relieve_172 : decode cX12_relieve 172 = .ok (.getfield 25, 3) := by decide +kernel
theorem dX12_relieve_175 : decode cX12_relieve 175 = .ok (.iload 4, 2) := by decide +kernel
theorem dX12_relieve_177 : decode cX12_relieve 177 = .ok (.iconst 0, 1) := by decide +kernel
theorem dX12_relieve_178 : decode cX12_relieve 178 = .ok (.iastore, 1) := by decide +kernel
theorem dX12_relieve_179 : decode cX12_relieve 179 = .ok (.aload_n 0, 1) := by decide +kernel
theorem dX12_relieve_180 : decode cX12_relieve 180 = .ok (.getfield 43, 3) := by decide +kernel
theorem dX12_relieve_183 : decode cX12_relieve 183 = .ok (.iload 4, 2) := by decide +kernel
theorem dX12_relieve_185 : decode cX12_relieve 185 = .ok (.bipush (-6), 2) := by decide +kernel
theorem dX12_relieve_187 : decode cX12_relieve 187 = .ok (.iastore, 1) := by decide +kernel
theorem dX12_relieve_188 : decode cX12_relieve 188 = .ok (.iinc 3 1, 3) := by decide +kernel
theorem dX12_relieve_191 : decode cX12_relieve 191 = .ok (.iinc 4 1, 3) := by decide +kernel
theorem dX12_relieve_194 : decode cX12_relieve 194 = .ok (.goto (-54), 3) := by decide +kernel
theorem dX12_relieve_197 : decode cX12_relieve 197 = .ok (.iload_n 3, 1) := by decide +kernel
theorem dX12_relieve_198 : decode cX12_relieve 198 = .ok (.ireturn, 1) := by decide +kernel
def vb_X12_relieve_140 (post : Int32 → mj_M → Prop) : Nat → Nat → Int32 → Int32 → Int32 → mj_M → Prop
  | 0 => fun _ _ _ _ _ => False
  | f + 1 => fun l0 l1 l3 l4 M => mj_tag M l0 = 13 ∧ if (mj_i M l0 13) ≤ l4 then (post l3 M) else (mj_tag M (mj_r M l0 6) = 101 ∧ vp_in l4 (mj_len M (mj_r M l0 6)) ∧ if (mj_i M (mj_r M l0 6) (l4 : Int32).toNatClampNeg) = 4 then (mj_tag M (mj_r M l0 12) = 101 ∧ vp_in l4 (mj_len M (mj_r M l0 12)) ∧ if (mj_i M (mj_r M l0 12) (l4 : Int32).toNatClampNeg) = l1 then (vb_X12_relieve_140 post f l0 l1 (l3 + 1) (l4 + 1) (mj_wi (mj_wi M (mj_r M l0 6) (l4 : Int32).toNatClampNeg 0) (mj_r M l0 12) (l4 : Int32).toNatClampNeg ((-6)))) else (vb_X12_relieve_140 post f l0 l1 l3 (l4 + 1) M)) else (vb_X12_relieve_140 post f l0 l1 l3 (l4 + 1) M))
def vb_X12_relieve_68 (post : Int32 → mj_M → Prop) (l0 : Nat) (l1 : Int32) (s0 : Bool) (M : mj_M) : Prop := mj_tag M l0 = 13 ∧ mj_tag M (mj_r M l0 1) = 101 ∧ vp_in l1 (mj_len M (mj_r M l0 1)) ∧ vc_X12_isOn l0 (mj_i M (mj_r M l0 1) (l1 : Int32).toNatClampNeg) (mj_i M l0 0) M (fun r12 M13 => if r12 = true then (if s0 = true then (post ((-5)) M13) else (mj_tag M13 l0 = 13 ∧ mj_tag M13 (mj_r M13 l0 3) = 101 ∧ vp_in l1 (mj_len M13 (mj_r M13 l0 3)) ∧ vc_X12_greater (mj_i M13 (mj_r M13 l0 3) (l1 : Int32).toNatClampNeg) (mj_i M13 l0 0) M13 (fun r19 M20 => mj_tag M20 l0 = 13 ∧ mj_tag M20 (mj_r M20 l0 4) = 101 ∧ vp_in l1 (mj_len M20 (mj_r M20 l0 4)) ∧ vc_X12_isBarred l0 l1 r19 (mj_i M20 (mj_r M20 l0 4) (l1 : Int32).toNatClampNeg) M20 (fun r24 M25 => if r24 = true then (post ((-5)) M25) else (mj_tag M25 l0 = 13 ∧ mj_tag M25 (mj_r M25 l0 6) = 101 ∧ vp_in l1 (mj_len M25 (mj_r M25 l0 6)) ∧ mj_tag M25 (mj_r M25 l0 11) = 101 ∧ vp_in l1 (mj_len M25 (mj_r M25 l0 11)) ∧ ∃ fe, vb_X12_relieve_140 post fe l0 l1 1 0 (mj_wi (mj_wi M25 (mj_r M25 l0 6) (l1 : Int32).toNatClampNeg 0) (mj_r M25 l0 11) (l1 : Int32).toNatClampNeg ((-6)))))))) else (post ((-5)) M13))
def vc_X12_relieve (l0 : Nat) (l1 : Int32) (M : mj_M) (post : Int32 → mj_M → Prop) : Prop := mj_tag M l0 = 13 ∧ vc_X12_isLease l0 l1 M (fun r33 M34 => if r33 = true then (mj_tag M34 l0 = 13 ∧ mj_tag M34 (mj_r M34 l0 6) = 101 ∧ vp_in l1 (mj_len M34 (mj_r M34 l0 6)) ∧ if (mj_i M34 (mj_r M34 l0 6) (l1 : Int32).toNatClampNeg) = 2 then (mj_tag M34 (mj_r M34 l0 5) = 101 ∧ vp_in l1 (mj_len M34 (mj_r M34 l0 5)) ∧ if ((mj_i M34 l0 0) - (mj_i M34 (mj_r M34 l0 5) (l1 : Int32).toNatClampNeg)) ≤ 180 then (mj_tag M34 (mj_r M34 l0 2) = 101 ∧ vp_in l1 (mj_len M34 (mj_r M34 l0 2)) ∧ mj_tag M34 (mj_r M34 l0 1) = 101 ∧ vp_in l1 (mj_len M34 (mj_r M34 l0 1)) ∧ vp_in (mj_i M34 (mj_r M34 l0 1) (l1 : Int32).toNatClampNeg) (mj_len M34 (mj_r M34 l0 2)) ∧ if ((mj_i M34 (mj_r M34 l0 2) (l1 : Int32).toNatClampNeg) &&& ((mj_i M34 (mj_r M34 l0 2) (mj_i M34 (mj_r M34 l0 1) (l1 : Int32).toNatClampNeg : Int32).toNatClampNeg) ^^^ ((-1)))) = 0 then (vb_X12_relieve_68 post l0 l1 false M34) else (vb_X12_relieve_68 post l0 l1 true M34)) else (post ((-3)) M34)) else (post ((-3)) M34)) else (post ((-1)) M34))
set_option maxHeartbeats 4000000 in
set_option maxRecDepth 100000 in
theorem xb_X12_relieve_140 {g : mj_G} {post : Int32 → mj_M → Prop} (hC : mj_C g yX12_relieve cX12_relieve 5 (some .int) rm_X12_relieve) (hE : mj_E g mj_jI post 0 0) : ∀ (f : Nat) (l0 : Nat) (l1 : Int32) (l3 : Int32) (l4 : Int32) (M : mj_M), vb_X12_relieve_140 post f l0 l1 l3 l4 M → mj_X g 140 [(0, vR l0), (1, vI l1), (3, vI l3), (4, vI l4)] [] M 0 0 := by
  intro f
  induction f with
  | zero => exact fun _ _ _ _ _ h => absurd h (fun z => z)
  | succ f ih =>
    intro l0 l1 l3 l4 M h
    simp only [vb_X12_relieve_140] at h
    refine mx_iload (j := 3) hC dX12_relieve_140 rfl ?_
    refine mx_aload_n (j := 0) hC dX12_relieve_142 rfl rfl ?_
    obtain ⟨ht1, h⟩ := h
    refine mx_get (v := vI (mj_i M l0 13)) hC tf_X12_130 ht1 rfl dX12_relieve_143 ?_
    refine mx_icmpge (tgt := 197) hC dX12_relieve_146 (by decide) (fun hc2 => ?_) (fun hc2 => ?_)
    · replace h := mj_yy hc2 h
      refine mx_iload_n (j := 2) hC dX12_relieve_197 rfl rfl ?_
      exact mx_iret hC hE rfl dX12_relieve_198 h
    · replace h := mj_nn hc2 h
      refine mx_aload_n (j := 0) hC dX12_relieve_149 rfl rfl ?_
      refine mx_get (v := vR (mj_r M l0 6)) hC tf_X12_25 ht1 rfl dX12_relieve_150 ?_
      refine mx_iload (j := 3) hC dX12_relieve_153 rfl ?_
      obtain ⟨ht3, h⟩ := h
      obtain ⟨hi4, h⟩ := h
      refine mx_iaload hC ht3 hi4 dX12_relieve_155 ?_
      refine mx_iconst (v := 4) hC dX12_relieve_156 (by decide) ?_
      refine mx_icmpne (tgt := 191) hC dX12_relieve_157 (by decide) (fun hc5 => ?_) (fun hc5 => ?_)
      · replace h := mj_nn hc5 h
        refine mx_iinc (j := 3) (v := l4 + 1) (L' := [(4, vI (l4 + 1)), (0, vR l0), (1, vI l1), (3, vI l3)]) hC dX12_relieve_191 rfl rfl (by decide) rfl ?_
        refine mx_goto (tgt := 140) hC dX12_relieve_194 (by decide) ?_
        refine mx_sub (L' := [(0, vR l0), (1, vI l1), (3, vI l3), (4, vI (l4 + 1))]) [1, 2, 3, 0] rfl ?_
        exact show mj_X g 140 [(0, vR l0), (1, vI l1), (3, vI l3), (4, vI (l4 + 1))] [] M 0 0 from (ih l0 l1 l3 (l4 + 1) M h)
      · replace h := mj_yy hc5 h
        refine mx_aload_n (j := 0) hC dX12_relieve_160 rfl rfl ?_
        refine mx_get (v := vR (mj_r M l0 12)) hC tf_X12_43 ht1 rfl dX12_relieve_161 ?_
        refine mx_iload (j := 3) hC dX12_relieve_164 rfl ?_
        obtain ⟨ht6, h⟩ := h
        obtain ⟨hi7, h⟩ := h
        refine mx_iaload hC ht6 hi7 dX12_relieve_166 ?_
        refine mx_iload_n (j := 1) hC dX12_relieve_167 rfl rfl ?_
        refine mx_icmpne (tgt := 191) hC dX12_relieve_168 (by decide) (fun hc8 => ?_) (fun hc8 => ?_)
        · replace h := mj_nn hc8 h
          refine mx_iinc (j := 3) (v := l4 + 1) (L' := [(4, vI (l4 + 1)), (0, vR l0), (1, vI l1), (3, vI l3)]) hC dX12_relieve_191 rfl rfl (by decide) rfl ?_
          refine mx_goto (tgt := 140) hC dX12_relieve_194 (by decide) ?_
          refine mx_sub (L' := [(0, vR l0), (1, vI l1), (3, vI l3), (4, vI (l4 + 1))]) [1, 2, 3, 0] rfl ?_
          exact show mj_X g 140 [(0, vR l0), (1, vI l1), (3, vI l3), (4, vI (l4 + 1))] [] M 0 0 from (ih l0 l1 l3 (l4 + 1) M h)
        · replace h := mj_yy hc8 h
          refine mx_aload_n (j := 0) hC dX12_relieve_171 rfl rfl ?_
          refine mx_get (v := vR (mj_r M l0 6)) hC tf_X12_25 ht1 rfl dX12_relieve_172 ?_
          refine mx_iload (j := 3) hC dX12_relieve_175 rfl ?_
          refine mx_iconst (v := 0) hC dX12_relieve_177 (by decide) ?_
          refine mx_iastore hC ht3 hi4 dX12_relieve_178 ?_
          refine mx_aload_n (j := 0) hC dX12_relieve_179 rfl rfl ?_
          refine mx_get (v := vR (mj_r M l0 12)) hC tf_X12_43 ht1 rfl dX12_relieve_180 ?_
          refine mx_iload (j := 3) hC dX12_relieve_183 rfl ?_
          refine mx_bipush (v := (-6)) hC dX12_relieve_185 (by decide) ?_
          refine mx_iastore hC ht6 hi7 dX12_relieve_187 ?_
          refine mx_iinc (j := 2) (v := l3 + 1) (L' := [(3, vI (l3 + 1)), (0, vR l0), (1, vI l1), (4, vI l4)]) hC dX12_relieve_188 rfl rfl (by decide) rfl ?_
          refine mx_iinc (j := 3) (v := l4 + 1) (L' := [(4, vI (l4 + 1)), (3, vI (l3 + 1)), (0, vR l0), (1, vI l1)]) hC dX12_relieve_191 rfl rfl (by decide) rfl ?_
          refine mx_goto (tgt := 140) hC dX12_relieve_194 (by decide) ?_
          refine mx_sub (L' := [(0, vR l0), (1, vI l1), (3, vI (l3 + 1)), (4, vI (l4 + 1))]) [2, 3, 1, 0] rfl ?_
          exact show mj_X g 140 [(0, vR l0), (1, vI l1), (3, vI (l3 + 1)), (4, vI (l4 + 1))] [] (mj_wi (mj_wi M (mj_r M l0 6) (l4 : Int32).toNatClampNeg 0) (mj_r M l0 12) (l4 : Int32).toNatClampNeg ((-6))) 0 0 from (ih l0 l1 (l3 + 1) (l4 + 1) (mj_wi (mj_wi M (mj_r M l0 6) (l4 : Int32).toNatClampNeg 0) (mj_r M l0 12) (l4 : Int32).toNatClampNeg ((-6))) h)
set_option maxHeartbeats 4000000 in
set_option maxRecDepth 100000 in
theorem xb_X12_relieve_68 {g : mj_G} {post : Int32 → mj_M → Prop} (hC : mj_C g yX12_relieve cX12_relieve 5 (some .int) rm_X12_relieve) (hE : mj_E g mj_jI post 0 0) (l0 : Nat) (l1 : Int32) (s0 : Bool) (M : mj_M) (h : vb_X12_relieve_68 post l0 l1 s0 M) : mj_X g 68 [(0, vR l0), (1, vI l1)] [vI (mj_b s0)] M 0 0 := by
  simp only [vb_X12_relieve_68] at h
  refine mx_istore_n (L' := [(2, vI (mj_b s0)), (0, vR l0), (1, vI l1)]) hC dX12_relieve_68 rfl (by decide) rfl ?_
  refine mx_aload_n (j := 1) hC dX12_relieve_69 rfl rfl ?_
  refine mx_aload_n (j := 1) hC dX12_relieve_70 rfl rfl ?_
  obtain ⟨ht9, h⟩ := h
  refine mx_get (v := vR (mj_r M l0 1)) hC tf_X12_7 ht9 rfl dX12_relieve_71 ?_
  refine mx_iload_n (j := 2) hC dX12_relieve_74 rfl rfl ?_
  obtain ⟨ht10, h⟩ := h
  obtain ⟨hi11, h⟩ := h
  refine mx_iaload hC ht10 hi11 dX12_relieve_75 ?_
  refine mx_aload_n (j := 1) hC dX12_relieve_76 rfl rfl ?_
  refine mx_get (v := vI (mj_i M l0 0)) hC tf_X12_151 ht9 rfl dX12_relieve_77 ?_
  refine mx_callV (inj := mj_jB) (As := [vI (mj_i M (mj_r M l0 1) (l1 : Int32).toNatClampNeg), vI (mj_i M l0 0)]) (st := []) hC (ct_X12_isOn l0 (mj_i M (mj_r M l0 1) (l1 : Int32).toNatClampNeg) (mj_i M l0 0) M _ h) ty_X12_isOn tw1440 ht9 rfl (Nat.le_of_ble_eq_true rfl) ⟨rfl, rfl, ⟨by decide, by decide⟩, by decide, by decide⟩ dX12_relieve_80 (fun r12 M13 h => ?_)
  show mj_X g 83 [(2, vI (mj_b s0)), (0, vR l0), (1, vI l1)] [vI (mj_b r12)] M13 0 0
  refine mx_ifeqB (tgt := 117) hC dX12_relieve_83 (by decide) (fun hc14 => ?_) (fun hc14 => ?_)
  · replace h := mj_nn hc14 h
    refine mx_bipush (v := (-5)) hC dX12_relieve_117 (by decide) ?_
    exact mx_iret hC hE rfl dX12_relieve_119 h
  · replace h := mj_yy hc14 h
    refine mx_iload_n (j := 0) hC dX12_relieve_86 rfl rfl ?_
    refine mx_ifneB (tgt := 117) hC dX12_relieve_87 (by decide) (fun hc15 => ?_) (fun hc15 => ?_)
    · replace h := mj_yy hc15 h
      refine mx_bipush (v := (-5)) hC dX12_relieve_117 (by decide) ?_
      exact mx_iret hC hE rfl dX12_relieve_119 h
    · replace h := mj_nn hc15 h
      refine mx_aload_n (j := 1) hC dX12_relieve_90 rfl rfl ?_
      refine mx_iload_n (j := 2) hC dX12_relieve_91 rfl rfl ?_
      refine mx_aload_n (j := 1) hC dX12_relieve_92 rfl rfl ?_
      obtain ⟨ht16, h⟩ := h
      refine mx_get (v := vR (mj_r M13 l0 3)) hC tf_X12_16 ht16 rfl dX12_relieve_93 ?_
      refine mx_iload_n (j := 2) hC dX12_relieve_96 rfl rfl ?_
      obtain ⟨ht17, h⟩ := h
      obtain ⟨hi18, h⟩ := h
      refine mx_iaload hC ht17 hi18 dX12_relieve_97 ?_
      refine mx_aload_n (j := 1) hC dX12_relieve_98 rfl rfl ?_
      refine mx_get (v := vI (mj_i M13 l0 0)) hC tf_X12_151 ht16 rfl dX12_relieve_99 ?_
      refine mx_callS (inj := mj_jI) (As := [vI (mj_i M13 (mj_r M13 l0 3) (l1 : Int32).toNatClampNeg), vI (mj_i M13 l0 0)]) (st := [vI l1, vR l0]) hC (ct_X12_greater (mj_i M13 (mj_r M13 l0 3) (l1 : Int32).toNatClampNeg) (mj_i M13 l0 0) M13 _ h) ty_X12_greater tw1426 rfl (Nat.le_of_ble_eq_true rfl) ⟨rfl, rfl, ⟨by decide, by decide⟩, by decide, by decide⟩ dX12_relieve_102 (fun r19 M20 h => ?_)
      show mj_X g 105 [(2, vI (mj_b s0)), (0, vR l0), (1, vI l1)] [vI r19, vI l1, vR l0] M20 0 0
      refine mx_aload_n (j := 1) hC dX12_relieve_105 rfl rfl ?_
      obtain ⟨ht21, h⟩ := h
      refine mx_get (v := vR (mj_r M20 l0 4)) hC tf_X12_19 ht21 rfl dX12_relieve_106 ?_
      refine mx_iload_n (j := 2) hC dX12_relieve_109 rfl rfl ?_
      obtain ⟨ht22, h⟩ := h
      obtain ⟨hi23, h⟩ := h
      refine mx_iaload hC ht22 hi23 dX12_relieve_110 ?_
      refine mx_callV (inj := mj_jB) (As := [vI l1, vI r19, vI (mj_i M20 (mj_r M20 l0 4) (l1 : Int32).toNatClampNeg)]) (st := []) hC (ct_X12_isBarred l0 l1 r19 (mj_i M20 (mj_r M20 l0 4) (l1 : Int32).toNatClampNeg) M20 _ h) ty_X12_isBarred tw1653 ht21 rfl (Nat.le_of_ble_eq_true rfl) ⟨rfl, rfl, ⟨by decide, by decide⟩, by decide, by decide⟩ dX12_relieve_111 (fun r24 M25 h => ?_)
      show mj_X g 114 [(2, vI (mj_b s0)), (0, vR l0), (1, vI l1)] [vI (mj_b r24)] M25 0 0
      refine mx_ifeqB (tgt := 120) hC dX12_relieve_114 (by decide) (fun hc26 => ?_) (fun hc26 => ?_)
      · replace h := mj_nn hc26 h
        refine mx_aload_n (j := 1) hC dX12_relieve_120 rfl rfl ?_
        obtain ⟨ht27, h⟩ := h
        refine mx_get (v := vR (mj_r M25 l0 6)) hC tf_X12_25 ht27 rfl dX12_relieve_121 ?_
        refine mx_iload_n (j := 2) hC dX12_relieve_124 rfl rfl ?_
        refine mx_iconst (v := 0) hC dX12_relieve_125 (by decide) ?_
        obtain ⟨ht28, h⟩ := h
        obtain ⟨hi29, h⟩ := h
        refine mx_iastore hC ht28 hi29 dX12_relieve_126 ?_
        refine mx_aload_n (j := 1) hC dX12_relieve_127 rfl rfl ?_
        refine mx_get (v := vR (mj_r M25 l0 11)) hC tf_X12_40 ht27 rfl dX12_relieve_128 ?_
        refine mx_iload_n (j := 2) hC dX12_relieve_131 rfl rfl ?_
        refine mx_bipush (v := (-6)) hC dX12_relieve_132 (by decide) ?_
        obtain ⟨ht30, h⟩ := h
        obtain ⟨hi31, h⟩ := h
        refine mx_iastore hC ht30 hi31 dX12_relieve_134 ?_
        refine mx_iconst (v := 1) hC dX12_relieve_135 (by decide) ?_
        refine mx_istore_n (L' := [(3, vI 1), (2, vI (mj_b s0)), (0, vR l0), (1, vI l1)]) hC dX12_relieve_136 rfl (by decide) rfl ?_
        refine mx_iconst (v := 0) hC dX12_relieve_137 (by decide) ?_
        refine mx_istore (L' := [(4, vI 0), (3, vI 1), (2, vI (mj_b s0)), (0, vR l0), (1, vI l1)]) hC dX12_relieve_138 (by decide) rfl ?_
        refine mx_sub (L' := [(0, vR l0), (1, vI l1), (3, vI 1), (4, vI 0)]) [3, 4, 1, 0] rfl ?_
        obtain ⟨fe, h⟩ := h
        exact show mj_X g 140 [(0, vR l0), (1, vI l1), (3, vI 1), (4, vI 0)] [] (mj_wi (mj_wi M25 (mj_r M25 l0 6) (l1 : Int32).toNatClampNeg 0) (mj_r M25 l0 11) (l1 : Int32).toNatClampNeg ((-6))) 0 0 from (xb_X12_relieve_140 hC hE fe l0 l1 1 0 (mj_wi (mj_wi M25 (mj_r M25 l0 6) (l1 : Int32).toNatClampNeg 0) (mj_r M25 l0 11) (l1 : Int32).toNatClampNeg ((-6))) h)
      · replace h := mj_yy hc26 h
        refine mx_bipush (v := (-5)) hC dX12_relieve_117 (by decide) ?_
        exact mx_iret hC hE rfl dX12_relieve_119 h
set_option maxHeartbeats 4000000 in
set_option maxRecDepth 100000 in
theorem ct_X12_relieve {l : Launch} {base : Nat} {D : va_G} {A : ClassId × ClassId × ClassId} (l0 : Nat) (l1 : Int32) (M : mj_M) (post : Int32 → mj_M → Prop) (h : vc_X12_relieve l0 l1 M post) : mj_Met l base D A mj_jI yX12_relieve cX12_relieve 5 (some .int) rm_X12_relieve 0 0 [vR l0, vI l1] M post := by
  refine mj_entry (by decide +kernel) (Nat.le_of_ble_eq_true rfl) (fun g hC hE h1 h2 h3 h4 => ?_)
  show mj_X g 0 [(0, vR l0), (1, vI l1)] [] M 0 0
  simp only [vc_X12_relieve] at h
  refine mx_aload_n (j := 0) hC dX12_relieve_0 rfl rfl ?_
  refine mx_iload_n (j := 1) hC dX12_relieve_1 rfl rfl ?_
  obtain ⟨ht32, h⟩ := h
  refine mx_callV (inj := mj_jB) (As := [vI l1]) (st := []) hC (ct_X12_isLease l0 l1 M _ h) ty_X12_isLease tw1448 ht32 rfl (Nat.le_of_ble_eq_true rfl) ⟨rfl, rfl, ⟨by decide, by decide⟩, by decide, by decide⟩ dX12_relieve_2 (fun r33 M34 h => ?_)
  show mj_X g 5 [(0, vR l0), (1, vI l1)] [vI (mj_b r33)] M34 0 0
  refine mx_ifneB (tgt := 10) hC dX12_relieve_5 (by decide) (fun hc35 => ?_) (fun hc35 => ?_)
  · replace h := mj_yy hc35 h
    refine mx_aload_n (j := 0) hC dX12_relieve_10 rfl rfl ?_
    obtain ⟨ht36, h⟩ := h
    refine mx_get (v := vR (mj_r M34 l0 6)) hC tf_X12_25 ht36 rfl dX12_relieve_11 ?_
    refine mx_iload_n (j := 1) hC dX12_relieve_14 rfl rfl ?_
    obtain ⟨ht37, h⟩ := h
    obtain ⟨hi38, h⟩ := h
    refine mx_iaload hC ht37 hi38 dX12_relieve_15 ?_
    refine mx_iconst (v := 2) hC dX12_relieve_16 (by decide) ?_
    refine mx_icmpne (tgt := 37) hC dX12_relieve_17 (by decide) (fun hc39 => ?_) (fun hc39 => ?_)
    · replace h := mj_nn hc39 h
      refine mx_bipush (v := (-3)) hC dX12_relieve_37 (by decide) ?_
      exact mx_iret hC hE rfl dX12_relieve_39 h
    · replace h := mj_yy hc39 h
      refine mx_aload_n (j := 0) hC dX12_relieve_20 rfl rfl ?_
      refine mx_get (v := vI (mj_i M34 l0 0)) hC tf_X12_151 ht36 rfl dX12_relieve_21 ?_
      refine mx_aload_n (j := 0) hC dX12_relieve_24 rfl rfl ?_
      refine mx_get (v := vR (mj_r M34 l0 5)) hC tf_X12_22 ht36 rfl dX12_relieve_25 ?_
      refine mx_iload_n (j := 1) hC dX12_relieve_28 rfl rfl ?_
      obtain ⟨ht40, h⟩ := h
      obtain ⟨hi41, h⟩ := h
      refine mx_iaload hC ht40 hi41 dX12_relieve_29 ?_
      refine mx_isub hC dX12_relieve_30 ?_
      refine mx_sipush (v := 180) hC dX12_relieve_31 (by decide) ?_
      refine mx_icmple (tgt := 40) hC dX12_relieve_34 (by decide) (fun hc42 => ?_) (fun hc42 => ?_)
      · replace h := mj_yy hc42 h
        refine mx_aload_n (j := 0) hC dX12_relieve_40 rfl rfl ?_
        refine mx_get (v := vR (mj_r M34 l0 2)) hC tf_X12_13 ht36 rfl dX12_relieve_41 ?_
        refine mx_iload_n (j := 1) hC dX12_relieve_44 rfl rfl ?_
        obtain ⟨ht43, h⟩ := h
        obtain ⟨hi44, h⟩ := h
        refine mx_iaload hC ht43 hi44 dX12_relieve_45 ?_
        refine mx_aload_n (j := 0) hC dX12_relieve_46 rfl rfl ?_
        refine mx_get (v := vR (mj_r M34 l0 2)) hC tf_X12_13 ht36 rfl dX12_relieve_47 ?_
        refine mx_aload_n (j := 0) hC dX12_relieve_50 rfl rfl ?_
        refine mx_get (v := vR (mj_r M34 l0 1)) hC tf_X12_7 ht36 rfl dX12_relieve_51 ?_
        refine mx_iload_n (j := 1) hC dX12_relieve_54 rfl rfl ?_
        obtain ⟨ht45, h⟩ := h
        obtain ⟨hi46, h⟩ := h
        refine mx_iaload hC ht45 hi46 dX12_relieve_55 ?_
        obtain ⟨hi47, h⟩ := h
        refine mx_iaload hC ht43 hi47 dX12_relieve_56 ?_
        refine mx_iconst (v := (-1)) hC dX12_relieve_57 (by decide) ?_
        refine mx_ixor hC dX12_relieve_58 ?_
        refine mx_iand hC dX12_relieve_59 ?_
        refine mx_ifeq (tgt := 67) hC dX12_relieve_60 (by decide) (fun hc48 => ?_) (fun hc48 => ?_)
        · replace h := mj_yy hc48 h
          refine mx_iconst (v := 0) hC dX12_relieve_67 (by decide) ?_
          refine mx_sub (L' := [(0, vR l0), (1, vI l1)]) [0, 1] rfl ?_
          exact show mj_X g 68 [(0, vR l0), (1, vI l1)] [vI (mj_b false)] M34 0 0 from (xb_X12_relieve_68 hC hE l0 l1 false M34 h)
        · replace h := mj_nn hc48 h
          refine mx_iconst (v := 1) hC dX12_relieve_63 (by decide) ?_
          refine mx_goto (tgt := 68) hC dX12_relieve_64 (by decide) ?_
          refine mx_sub (L' := [(0, vR l0), (1, vI l1)]) [0, 1] rfl ?_
          exact show mj_X g 68 [(0, vR l0), (1, vI l1)] [vI (mj_b true)] M34 0 0 from (xb_X12_relieve_68 hC hE l0 l1 true M34 h)
      · replace h := mj_nn hc42 h
        refine mx_bipush (v := (-3)) hC dX12_relieve_37 (by decide) ?_
        exact mx_iret hC hE rfl dX12_relieve_39 h
  · replace h := mj_nn hc35 h
    refine mx_iconst (v := (-1)) hC dX12_relieve_8 (by decide) ?_
    exact mx_iret hC hE rfl dX12_relieve_9 h
theorem tw1262 : (Jvm.Cond.fieldLink "LeaseLandModel" (418 : Nat) "LeaseLandModel" "lines" "I") ∈ mj_tbl := mj_w 1315 (by decide +kernel) (by decide +kernel)
theorem tf_X12_418 : mj_F 12 53 .int false "LeaseLandModel" 418 := ⟨_, tk12, by decide, rfl, rfl, rfl, tw1262⟩
def rm_X12_line : Room := { frames := 2, cells := 0, slots := 0, locals := 45 }
theorem dX12_line_0 : decode cX12_line 0 = .ok (.iload_n 1, 1) := by decide +kernel
theorem dX12_line_1 : decode cX12_line 1 = .ok (.invokestatic 154, 3) := by decide +kernel
theorem dX12_line_4 : decode cX12_line 4 = .ok (.ifCond .eq 36, 3) := by decide +kernel
theorem dX12_line_7 : decode cX12_line 7 = .ok (.iload_n 2, 1) := by decide +kernel
theorem dX12_line_8 : decode cX12_line 8 = .ok (.invokestatic 154, 3) := by decide +kernel
theorem dX12_line_11 : decode cX12_line 11 = .ok (.ifCond .eq 29, 3) := by decide +kernel
theorem dX12_line_14 : decode cX12_line 14 = .ok (.iload_n 1, 1) := by decide +kernel
theorem dX12_line_15 : decode cX12_line 15 = .ok (.iload_n 2, 1) := by decide +kernel
theorem dX12_line_16 : decode cX12_line 16 = .ok (.if_icmp .eq 24, 3) := by decide +kernel
theorem dX12_line_19 : decode cX12_line 19 = .ok (.iload_n 3, 1) := by decide +kernel
theorem dX12_line_20 : decode cX12_line 20 = .ok (.invokestatic 220, 3) := by decide +kernel
theorem dX12_line_23 : decode cX12_line 23 = .ok (.ifCond .eq 17, 3) := by decide +kernel
theorem dX12_line_26 : decode cX12_line 26 = .ok (.iload 4, 2) := by decide +kernel
theorem dX12_line_28 : decode cX12_line 28 = .ok (.invokestatic 220, 3) := by decide +kernel
theorem dX12_line_31 : decode cX12_line 31 = .ok (.ifCond .eq 9, 3) := by decide +kernel
theorem dX12_line_34 : decode cX12_line 34 = .ok (.iload_n 3, 1) := by decide +kernel
theorem dX12_line_35 : decode cX12_line 35 = .ok (.iload 4, 2) := by decide +kernel
theorem dX12_line_37 : decode cX12_line 37 = .ok (.if_icmp .lt 6, 3) := by decide +kernel
theorem dX12_line_40 : decode cX12_line 40 = .ok (.bipush (-2), 2) := by decide +kernel
theorem dX12_line_42 : decode cX12_line 42 = .ok (.ireturn, 1) := by decide +kernel
theorem dX12_line_43 : decode cX12_line 43 = .ok (.aload_n 0, 1) := by decide +kernel
theorem dX12_line_44 : decode cX12_line 44 = .ok (.getfield 418, 3) := by decide +kernel
theorem dX12_line_47 : decode cX12_line 47 = .ok (.bipush 12, 2) := by decide +kernel
theorem dX12_line_49 : decode cX12_line 49 = .ok (.if_icmp .ne 6, 3) := by decide +kernel
theorem dX12_line_52 : decode cX12_line 52 = .ok (.bipush (-4), 2) := by decide +kernel
theorem dX12_line_54 : decode cX12_line 54 = .ok (.ireturn, 1) := by decide +kernel
theorem dX12_line_55 : decode cX12_line 55 = .ok (.aload_n 0, 1) := by decide +kernel
theorem dX12_line_56 : decode cX12_line 56 = .ok (.getfield 118, 3) := by decide +kernel
theorem dX12_line_59 : decode cX12_line 59 = .ok (.aload_n 0, 1) := by decide +kernel
theorem dX12_line_60 : decode cX12_line 60 = .ok (.getfield 418, 3) := by decide +kernel
theorem dX12_line_63 : decode cX12_line 63 = .ok (.iload_n 1, 1) := by decide +kernel
theorem dX12_line_64 : decode cX12_line 64 = .ok (.iastore, 1) := by decide +kernel
theorem dX12_line_65 : decode cX12_line 65 = .ok (.aload_n 0, 1) := by decide +kernel
theorem dX12_line_66 : decode cX12_line 66 = .ok (.getfield 121, 3) := by decide +kernel
theorem dX12_line_69 : decode cX12_line 69 = .ok (.aload_n 0, 1) := by decide +kernel
theorem dX12_line_70 : decode cX12_line 70 = .ok (.getfield 418, 3) := by decide +kernel
theorem dX12_line_73 : decode cX12_line 73 = .ok (.iload_n 2, 1) := by decide +kernel
theorem dX12_line_74 : decode cX12_line 74 = .ok (.iastore, 1) := by decide +kernel
theorem dX12_line_75 : decode cX12_line 75 = .ok (.aload_n 0, 1) := by decide +kernel
theorem dX12_line_76 : decode cX12_line 76 = .ok (.getfield 124, 3) := by decide +kernel
theorem dX12_line_79 : decode cX12_line 79 = .ok (.aload_n 0, 1) := by decide +kernel
theorem dX12_line_80 : decode cX12_line 80 = .ok (.getfield 418, 3) := by decide +kernel
theorem dX12_line_83 : decode cX12_line 83 = .ok (.iload_n 3, 1) := by decide +kernel
theorem dX12_line_84 : decode cX12_line 84 = .ok (.iastore, 1) := by decide +kernel
theorem dX12_line_85 : decode cX12_line 85 = .ok (.aload_n 0, 1) := by decide +kernel
theorem dX12_line_86 : decode cX12_line 86 = .ok (.getfield 127, 3) := by decide +kernel
theorem dX12_line_89 : decode cX12_line 89 = .ok (.aload_n 0, 1) := by decide +kernel
theorem dX12_line_90 : decode cX12_line 90 = .ok (.getfield 418, 3) := by decide +kernel
theorem dX12_line_93 : decode cX12_line 93 = .ok (.iload 4, 2) := by decide +kernel
theorem dX12_line_95 : decode cX12_line 95 = .ok (.iastore, 1) := by decide +kernel
theorem dX12_line_96 : decode cX12_line 96 = .ok (.aload_n 0, 1) := by decide +kernel
theorem dX12_line_97 : decode cX12_line 97 = .ok (.dup, 1) := by decide +kernel
theorem dX12_line_98 : decode cX12_line 98 = .ok (.getfield 418, 3) := by decide +kernel
theorem dX12_line_101 : decode cX12_line 101 = .ok (.iconst 1, 1) := by decide +kernel
theorem dX12_line_102 : decode cX12_line 102 = .ok (.iadd, 1) := by decide +kernel
theorem dX12_line_103 : decode cX12_line 103 = .ok (.putfield 418, 3) := by decide +kernel
theorem dX12_line_106 : decode cX12_line 106 = .ok (.aload_n 0, 1) := by decide +kernel
theorem dX12_line_107 : decode cX12_line 107 = .ok (.getfield 418, 3) := by decide +kernel
theorem dX12_line_110 : decode cX12_line 110 = .ok (.iconst 1, 1) := by decide +kernel
theorem dX12_line_111 : decode cX12_line 111 = .ok (.isub, 1) := by decide +kernel
theorem dX12_line_112 : decode cX12_line 112 = .ok (.ireturn, 1) := by decide +kernel
def vc_X12_line (l0 : Nat) (l1 : Int32) (l2 : Int32) (l3 : Int32) (l4 : Int32) (M : mj_M) (post : Int32 → mj_M → Prop) : Prop := vc_X12_isPerson l1 M (fun r1 M2 => if r1 = true then (vc_X12_isPerson l2 M2 (fun r4 M5 => if r4 = true then (if l1 = l2 then (post ((-2)) M5) else (vc_X12_isDay l3 M5 (fun r8 M9 => if r8 = true then (vc_X12_isDay l4 M9 (fun r11 M12 => if r11 = true then (if l3 < l4 then (mj_tag M12 l0 = 13 ∧ if (mj_i M12 l0 53) = 12 then (post ((-4)) M12) else (mj_tag M12 (mj_r M12 l0 49) = 101 ∧ vp_in (mj_i M12 l0 53) (mj_len M12 (mj_r M12 l0 49)) ∧ mj_tag M12 (mj_r M12 l0 50) = 101 ∧ vp_in (mj_i (mj_wi M12 (mj_r M12 l0 49) (mj_i M12 l0 53 : Int32).toNatClampNeg l1) l0 53) (mj_len M12 (mj_r M12 l0 50)) ∧ mj_tag M12 (mj_r M12 l0 51) = 101 ∧ vp_in (mj_i (mj_wi (mj_wi M12 (mj_r M12 l0 49) (mj_i M12 l0 53 : Int32).toNatClampNeg l1) (mj_r M12 l0 50) (mj_i (mj_wi M12 (mj_r M12 l0 49) (mj_i M12 l0 53 : Int32).toNatClampNeg l1) l0 53 : Int32).toNatClampNeg l2) l0 53) (mj_len M12 (mj_r M12 l0 51)) ∧ mj_tag M12 (mj_r M12 l0 52) = 101 ∧ vp_in (mj_i (mj_wi (mj_wi (mj_wi M12 (mj_r M12 l0 49) (mj_i M12 l0 53 : Int32).toNatClampNeg l1) (mj_r M12 l0 50) (mj_i (mj_wi M12 (mj_r M12 l0 49) (mj_i M12 l0 53 : Int32).toNatClampNeg l1) l0 53 : Int32).toNatClampNeg l2) (mj_r M12 l0 51) (mj_i (mj_wi (mj_wi M12 (mj_r M12 l0 49) (mj_i M12 l0 53 : Int32).toNatClampNeg l1) (mj_r M12 l0 50) (mj_i (mj_wi M12 (mj_r M12 l0 49) (mj_i M12 l0 53 : Int32).toNatClampNeg l1) l0 53 : Int32).toNatClampNeg l2) l0 53 : Int32).toNatClampNeg l3) l0 53) (mj_len M12 (mj_r M12 l0 52)) ∧ post ((mj_i (mj_wi (mj_wi (mj_wi (mj_wi (mj_wi M12 (mj_r M12 l0 49) (mj_i M12 l0 53 : Int32).toNatClampNeg l1) (mj_r M12 l0 50) (mj_i (mj_wi M12 (mj_r M12 l0 49) (mj_i M12 l0 53 : Int32).toNatClampNeg l1) l0 53 : Int32).toNatClampNeg l2) (mj_r M12 l0 51) (mj_i (mj_wi (mj_wi M12 (mj_r M12 l0 49) (mj_i M12 l0 53 : Int32).toNatClampNeg l1) (mj_r M12 l0 50) (mj_i (mj_wi M12 (mj_r M12 l0 49) (mj_i M12 l0 53 : Int32).toNatClampNeg l1) l0 53 : Int32).toNatClampNeg l2) l0 53 : Int32).toNatClampNeg l3) (mj_r M12 l0 52) (mj_i (mj_wi (mj_wi (mj_wi M12 (mj_r M12 l0 49) (mj_i M12 l0 53 : Int32).toNatClampNeg l1) (mj_r M12 l0 50) (mj_i (mj_wi M12 (mj_r M12 l0 49) (mj_i M12 l0 53 : Int32).toNatClampNeg l1) l0 53 : Int32).toNatClampNeg l2) (mj_r M12 l0 51) (mj_i (mj_wi (mj_wi M12 (mj_r M12 l0 49) (mj_i M12 l0 53 : Int32).toNatClampNeg l1) (mj_r M12 l0 50) (mj_i (mj_wi M12 (mj_r M12 l0 49) (mj_i M12 l0 53 : Int32).toNatClampNeg l1) l0 53 : Int32).toNatClampNeg l2) l0 53 : Int32).toNatClampNeg l3) l0 53 : Int32).toNatClampNeg l4) l0 53 ((mj_i (mj_wi (mj_wi (mj_wi (mj_wi M12 (mj_r M12 l0 49) (mj_i M12 l0 53 : Int32).toNatClampNeg l1) (mj_r M12 l0 50) (mj_i (mj_wi M12 (mj_r M12 l0 49) (mj_i M12 l0 53 : Int32).toNatClampNeg l1) l0 53 : Int32).toNatClampNeg l2) (mj_r M12 l0 51) (mj_i (mj_wi (mj_wi M12 (mj_r M12 l0 49) (mj_i M12 l0 53 : Int32).toNatClampNeg l1) (mj_r M12 l0 50) (mj_i (mj_wi M12 (mj_r M12 l0 49) (mj_i M12 l0 53 : Int32).toNatClampNeg l1) l0 53 : Int32).toNatClampNeg l2) l0 53 : Int32).toNatClampNeg l3) (mj_r M12 l0 52) (mj_i (mj_wi (mj_wi (mj_wi M12 (mj_r M12 l0 49) (mj_i M12 l0 53 : Int32).toNatClampNeg l1) (mj_r M12 l0 50) (mj_i (mj_wi M12 (mj_r M12 l0 49) (mj_i M12 l0 53 : Int32).toNatClampNeg l1) l0 53 : Int32).toNatClampNeg l2) (mj_r M12 l0 51) (mj_i (mj_wi (mj_wi M12 (mj_r M12 l0 49) (mj_i M12 l0 53 : Int32).toNatClampNeg l1) (mj_r M12 l0 50) (mj_i (mj_wi M12 (mj_r M12 l0 49) (mj_i M12 l0 53 : Int32).toNatClampNeg l1) l0 53 : Int32).toNatClampNeg l2) l0 53 : Int32).toNatClampNeg l3) l0 53 : Int32).toNatClampNeg l4) l0 53) + 1)) l0 53) - 1) (mj_wi (mj_wi (mj_wi (mj_wi (mj_wi M12 (mj_r M12 l0 49) (mj_i M12 l0 53 : Int32).toNatClampNeg l1) (mj_r M12 l0 50) (mj_i (mj_wi M12 (mj_r M12 l0 49) (mj_i M12 l0 53 : Int32).toNatClampNeg l1) l0 53 : Int32).toNatClampNeg l2) (mj_r M12 l0 51) (mj_i (mj_wi (mj_wi M12 (mj_r M12 l0 49) (mj_i M12 l0 53 : Int32).toNatClampNeg l1) (mj_r M12 l0 50) (mj_i (mj_wi M12 (mj_r M12 l0 49) (mj_i M12 l0 53 : Int32).toNatClampNeg l1) l0 53 : Int32).toNatClampNeg l2) l0 53 : Int32).toNatClampNeg l3) (mj_r M12 l0 52) (mj_i (mj_wi (mj_wi (mj_wi M12 (mj_r M12 l0 49) (mj_i M12 l0 53 : Int32).toNatClampNeg l1) (mj_r M12 l0 50) (mj_i (mj_wi M12 (mj_r M12 l0 49) (mj_i M12 l0 53 : Int32).toNatClampNeg l1) l0 53 : Int32).toNatClampNeg l2) (mj_r M12 l0 51) (mj_i (mj_wi (mj_wi M12 (mj_r M12 l0 49) (mj_i M12 l0 53 : Int32).toNatClampNeg l1) (mj_r M12 l0 50) (mj_i (mj_wi M12 (mj_r M12 l0 49) (mj_i M12 l0 53 : Int32).toNatClampNeg l1) l0 53 : Int32).toNatClampNeg l2) l0 53 : Int32).toNatClampNeg l3) l0 53 : Int32).toNatClampNeg l4) l0 53 ((mj_i (mj_wi (mj_wi (mj_wi (mj_wi M12 (mj_r M12 l0 49) (mj_i M12 l0 53 : Int32).toNatClampNeg l1) (mj_r M12 l0 50) (mj_i (mj_wi M12 (mj_r M12 l0 49) (mj_i M12 l0 53 : Int32).toNatClampNeg l1) l0 53 : Int32).toNatClampNeg l2) (mj_r M12 l0 51) (mj_i (mj_wi (mj_wi M12 (mj_r M12 l0 49) (mj_i M12 l0 53 : Int32).toNatClampNeg l1) (mj_r M12 l0 50) (mj_i (mj_wi M12 (mj_r M12 l0 49) (mj_i M12 l0 53 : Int32).toNatClampNeg l1) l0 53 : Int32).toNatClampNeg l2) l0 53 : Int32).toNatClampNeg l3) (mj_r M12 l0 52) (mj_i (mj_wi (mj_wi (mj_wi M12 (mj_r M12 l0 49) (mj_i M12 l0 53 : Int32).toNatClampNeg l1) (mj_r M12 l0 50) (mj_i (mj_wi M12 (mj_r M12 l0 49) (mj_i M12 l0 53 : Int32).toNatClampNeg l1) l0 53 : Int32).toNatClampNeg l2) (mj_r M12 l0 51) (mj_i (mj_wi (mj_wi M12 (mj_r M12 l0 49) (mj_i M12 l0 53 : Int32).toNatClampNeg l1) (mj_r M12 l0 50) (mj_i (mj_wi M12 (mj_r M12 l0 49) (mj_i M12 l0 53 : Int32).toNatClampNeg l1) l0 53 : Int32).toNatClampNeg l2) l0 53 : Int32).toNatClampNeg l3) l0 53 : Int32).toNatClampNeg l4) l0 53) + 1)))) else (post ((-2)) M12)) else (post ((-2)) M12))) else (post ((-2)) M9)))) else (post ((-2)) M5))) else (post ((-2)) M2))
set_option maxHeartbeats 4000000 in
set_option maxRecDepth 100000 in
theorem ct_X12_line {l : Launch} {base : Nat} {D : va_G} {A : ClassId × ClassId × ClassId} (l0 : Nat) (l1 : Int32) (l2 : Int32) (l3 : Int32) (l4 : Int32) (M : mj_M) (post : Int32 → mj_M → Prop) (h : vc_X12_line l0 l1 l2 l3 l4 M post) : mj_Met l base D A mj_jI yX12_line cX12_line 5 (some .int) rm_X12_line 0 0 [vR l0, vI l1, vI l2, vI l3, vI l4] M post := by
  refine mj_entry (by decide +kernel) (Nat.le_of_ble_eq_true rfl) (fun g hC hE h1 h2 h3 h4 => ?_)
  show mj_X g 0 [(0, vR l0), (1, vI l1), (2, vI l2), (3, vI l3), (4, vI l4)] [] M 0 0
  simp only [vc_X12_line] at h
  refine mx_iload_n (j := 1) hC dX12_line_0 rfl rfl ?_
  refine mx_callS (inj := mj_jB) (As := [vI l1]) (st := []) hC (ct_X12_isPerson l1 M _ h) ty_X12_isPerson tw1386 rfl (Nat.le_of_ble_eq_true rfl) ⟨rfl, rfl, ⟨by decide, by decide⟩, by decide, by decide⟩ dX12_line_1 (fun r1 M2 h => ?_)
  show mj_X g 4 [(0, vR l0), (1, vI l1), (2, vI l2), (3, vI l3), (4, vI l4)] [vI (mj_b r1)] M2 0 0
  refine mx_ifeqB (tgt := 40) hC dX12_line_4 (by decide) (fun hc3 => ?_) (fun hc3 => ?_)
  · replace h := mj_nn hc3 h
    refine mx_bipush (v := (-2)) hC dX12_line_40 (by decide) ?_
    exact mx_iret hC hE rfl dX12_line_42 h
  · replace h := mj_yy hc3 h
    refine mx_iload_n (j := 2) hC dX12_line_7 rfl rfl ?_
    refine mx_callS (inj := mj_jB) (As := [vI l2]) (st := []) hC (ct_X12_isPerson l2 M2 _ h) ty_X12_isPerson tw1386 rfl (Nat.le_of_ble_eq_true rfl) ⟨rfl, rfl, ⟨by decide, by decide⟩, by decide, by decide⟩ dX12_line_8 (fun r4 M5 h => ?_)
    show mj_X g 11 [(0, vR l0), (1, vI l1), (2, vI l2), (3, vI l3), (4, vI l4)] [vI (mj_b r4)] M5 0 0
    refine mx_ifeqB (tgt := 40) hC dX12_line_11 (by decide) (fun hc6 => ?_) (fun hc6 => ?_)
    · replace h := mj_nn hc6 h
      refine mx_bipush (v := (-2)) hC dX12_line_40 (by decide) ?_
      exact mx_iret hC hE rfl dX12_line_42 h
    · replace h := mj_yy hc6 h
      refine mx_iload_n (j := 1) hC dX12_line_14 rfl rfl ?_
      refine mx_iload_n (j := 2) hC dX12_line_15 rfl rfl ?_
      refine mx_icmpeq (tgt := 40) hC dX12_line_16 (by decide) (fun hc7 => ?_) (fun hc7 => ?_)
      · replace h := mj_yy hc7 h
        refine mx_bipush (v := (-2)) hC dX12_line_40 (by decide) ?_
        exact mx_iret hC hE rfl dX12_line_42 h
      · replace h := mj_nn hc7 h
        refine mx_iload_n (j := 3) hC dX12_line_19 rfl rfl ?_
        refine mx_callS (inj := mj_jB) (As := [vI l3]) (st := []) hC (ct_X12_isDay l3 M5 _ h) ty_X12_isDay tw1502 rfl (Nat.le_of_ble_eq_true rfl) ⟨rfl, rfl, ⟨by decide, by decide⟩, by decide, by decide⟩ dX12_line_20 (fun r8 M9 h => ?_)
        show mj_X g 23 [(0, vR l0), (1, vI l1), (2, vI l2), (3, vI l3), (4, vI l4)] [vI (mj_b r8)] M9 0 0
        refine mx_ifeqB (tgt := 40) hC dX12_line_23 (by decide) (fun hc10 => ?_) (fun hc10 => ?_)
        · replace h := mj_nn hc10 h
          refine mx_bipush (v := (-2)) hC dX12_line_40 (by decide) ?_
          exact mx_iret hC hE rfl dX12_line_42 h
        · replace h := mj_yy hc10 h
          refine mx_iload (j := 4) hC dX12_line_26 rfl ?_
          refine mx_callS (inj := mj_jB) (As := [vI l4]) (st := []) hC (ct_X12_isDay l4 M9 _ h) ty_X12_isDay tw1502 rfl (Nat.le_of_ble_eq_true rfl) ⟨rfl, rfl, ⟨by decide, by decide⟩, by decide, by decide⟩ dX12_line_28 (fun r11 M12 h => ?_)
          show mj_X g 31 [(0, vR l0), (1, vI l1), (2, vI l2), (3, vI l3), (4, vI l4)] [vI (mj_b r11)] M12 0 0
          refine mx_ifeqB (tgt := 40) hC dX12_line_31 (by decide) (fun hc13 => ?_) (fun hc13 => ?_)
          · replace h := mj_nn hc13 h
            refine mx_bipush (v := (-2)) hC dX12_line_40 (by decide) ?_
            exact mx_iret hC hE rfl dX12_line_42 h
          · replace h := mj_yy hc13 h
            refine mx_iload_n (j := 3) hC dX12_line_34 rfl rfl ?_
            refine mx_iload (j := 4) hC dX12_line_35 rfl ?_
            refine mx_icmplt (tgt := 43) hC dX12_line_37 (by decide) (fun hc14 => ?_) (fun hc14 => ?_)
            · replace h := mj_yy hc14 h
              refine mx_aload_n (j := 0) hC dX12_line_43 rfl rfl ?_
              obtain ⟨ht15, h⟩ := h
              refine mx_get (v := vI (mj_i M12 l0 53)) hC tf_X12_418 ht15 rfl dX12_line_44 ?_
              refine mx_bipush (v := 12) hC dX12_line_47 (by decide) ?_
              refine mx_icmpne (tgt := 55) hC dX12_line_49 (by decide) (fun hc16 => ?_) (fun hc16 => ?_)
              · replace h := mj_nn hc16 h
                refine mx_aload_n (j := 0) hC dX12_line_55 rfl rfl ?_
                refine mx_get (v := vR (mj_r M12 l0 49)) hC tf_X12_118 ht15 rfl dX12_line_56 ?_
                refine mx_aload_n (j := 0) hC dX12_line_59 rfl rfl ?_
                refine mx_get (v := vI (mj_i M12 l0 53)) hC tf_X12_418 ht15 rfl dX12_line_60 ?_
                refine mx_iload_n (j := 1) hC dX12_line_63 rfl rfl ?_
                obtain ⟨ht17, h⟩ := h
                obtain ⟨hi18, h⟩ := h
                refine mx_iastore hC ht17 hi18 dX12_line_64 ?_
                refine mx_aload_n (j := 0) hC dX12_line_65 rfl rfl ?_
                refine mx_get (v := vR (mj_r M12 l0 50)) hC tf_X12_121 ht15 rfl dX12_line_66 ?_
                refine mx_aload_n (j := 0) hC dX12_line_69 rfl rfl ?_
                refine mx_get (v := vI (mj_i (mj_wi M12 (mj_r M12 l0 49) (mj_i M12 l0 53 : Int32).toNatClampNeg l1) l0 53)) hC tf_X12_418 ht15 rfl dX12_line_70 ?_
                refine mx_iload_n (j := 2) hC dX12_line_73 rfl rfl ?_
                obtain ⟨ht19, h⟩ := h
                obtain ⟨hi20, h⟩ := h
                refine mx_iastore hC ht19 hi20 dX12_line_74 ?_
                refine mx_aload_n (j := 0) hC dX12_line_75 rfl rfl ?_
                refine mx_get (v := vR (mj_r M12 l0 51)) hC tf_X12_124 ht15 rfl dX12_line_76 ?_
                refine mx_aload_n (j := 0) hC dX12_line_79 rfl rfl ?_
                refine mx_get (v := vI (mj_i (mj_wi (mj_wi M12 (mj_r M12 l0 49) (mj_i M12 l0 53 : Int32).toNatClampNeg l1) (mj_r M12 l0 50) (mj_i (mj_wi M12 (mj_r M12 l0 49) (mj_i M12 l0 53 : Int32).toNatClampNeg l1) l0 53 : Int32).toNatClampNeg l2) l0 53)) hC tf_X12_418 ht15 rfl dX12_line_80 ?_
                refine mx_iload_n (j := 3) hC dX12_line_83 rfl rfl ?_
                obtain ⟨ht21, h⟩ := h
                obtain ⟨hi22, h⟩ := h
                refine mx_iastore hC ht21 hi22 dX12_line_84 ?_
                refine mx_aload_n (j := 0) hC dX12_line_85 rfl rfl ?_
                refine mx_get (v := vR (mj_r M12 l0 52)) hC tf_X12_127 ht15 rfl dX12_line_86 ?_
                refine mx_aload_n (j := 0) hC dX12_line_89 rfl rfl ?_
                refine mx_get (v := vI (mj_i (mj_wi (mj_wi (mj_wi M12 (mj_r M12 l0 49) (mj_i M12 l0 53 : Int32).toNatClampNeg l1) (mj_r M12 l0 50) (mj_i (mj_wi M12 (mj_r M12 l0 49) (mj_i M12 l0 53 : Int32).toNatClampNeg l1) l0 53 : Int32).toNatClampNeg l2) (mj_r M12 l0 51) (mj_i (mj_wi (mj_wi M12 (mj_r M12 l0 49) (mj_i M12 l0 53 : Int32).toNatClampNeg l1) (mj_r M12 l0 50) (mj_i (mj_wi M12 (mj_r M12 l0 49) (mj_i M12 l0 53 : Int32).toNatClampNeg l1) l0 53 : Int32).toNatClampNeg l2) l0 53 : Int32).toNatClampNeg l3) l0 53)) hC tf_X12_418 ht15 rfl dX12_line_90 ?_
                refine mx_iload (j := 4) hC dX12_line_93 rfl ?_
                obtain ⟨ht23, h⟩ := h
                obtain ⟨hi24, h⟩ := h
                refine mx_iastore hC ht23 hi24 dX12_line_95 ?_
                refine mx_aload_n (j := 0) hC dX12_line_96 rfl rfl ?_
                refine mx_dup hC dX12_line_97 rfl ?_
                refine mx_get (v := vI (mj_i (mj_wi (mj_wi (mj_wi (mj_wi M12 (mj_r M12 l0 49) (mj_i M12 l0 53 : Int32).toNatClampNeg l1) (mj_r M12 l0 50) (mj_i (mj_wi M12 (mj_r M12 l0 49) (mj_i M12 l0 53 : Int32).toNatClampNeg l1) l0 53 : Int32).toNatClampNeg l2) (mj_r M12 l0 51) (mj_i (mj_wi (mj_wi M12 (mj_r M12 l0 49) (mj_i M12 l0 53 : Int32).toNatClampNeg l1) (mj_r M12 l0 50) (mj_i (mj_wi M12 (mj_r M12 l0 49) (mj_i M12 l0 53 : Int32).toNatClampNeg l1) l0 53 : Int32).toNatClampNeg l2) l0 53 : Int32).toNatClampNeg l3) (mj_r M12 l0 52) (mj_i (mj_wi (mj_wi (mj_wi M12 (mj_r M12 l0 49) (mj_i M12 l0 53 : Int32).toNatClampNeg l1) (mj_r M12 l0 50) (mj_i (mj_wi M12 (mj_r M12 l0 49) (mj_i M12 l0 53 : Int32).toNatClampNeg l1) l0 53 : Int32).toNatClampNeg l2) (mj_r M12 l0 51) (mj_i (mj_wi (mj_wi M12 (mj_r M12 l0 49) (mj_i M12 l0 53 : Int32).toNatClampNeg l1) (mj_r M12 l0 50) (mj_i (mj_wi M12 (mj_r M12 l0 49) (mj_i M12 l0 53 : Int32).toNatClampNeg l1) l0 53 : Int32).toNatClampNeg l2) l0 53 : Int32).toNatClampNeg l3) l0 53 : Int32).toNatClampNeg l4) l0 53)) hC tf_X12_418 ht15 rfl dX12_line_98 ?_
                refine mx_iconst (v := 1) hC dX12_line_101 (by decide) ?_
                refine mx_iadd hC dX12_line_102 ?_
                refine mx_put (v := vI ((mj_i (mj_wi (mj_wi (mj_wi (mj_wi M12 (mj_r M12 l0 49) (mj_i M12 l0 53 : Int32).toNatClampNeg l1) (mj_r M12 l0 50) (mj_i (mj_wi M12 (mj_r M12 l0 49) (mj_i M12 l0 53 : Int32).toNatClampNeg l1) l0 53 : Int32).toNatClampNeg l2) (mj_r M12 l0 51) (mj_i (mj_wi (mj_wi M12 (mj_r M12 l0 49) (mj_i M12 l0 53 : Int32).toNatClampNeg l1) (mj_r M12 l0 50) (mj_i (mj_wi M12 (mj_r M12 l0 49) (mj_i M12 l0 53 : Int32).toNatClampNeg l1) l0 53 : Int32).toNatClampNeg l2) l0 53 : Int32).toNatClampNeg l3) (mj_r M12 l0 52) (mj_i (mj_wi (mj_wi (mj_wi M12 (mj_r M12 l0 49) (mj_i M12 l0 53 : Int32).toNatClampNeg l1) (mj_r M12 l0 50) (mj_i (mj_wi M12 (mj_r M12 l0 49) (mj_i M12 l0 53 : Int32).toNatClampNeg l1) l0 53 : Int32).toNatClampNeg l2) (mj_r M12 l0 51) (mj_i (mj_wi (mj_wi M12 (mj_r M12 l0 49) (mj_i M12 l0 53 : Int32).toNatClampNeg l1) (mj_r M12 l0 50) (mj_i (mj_wi M12 (mj_r M12 l0 49) (mj_i M12 l0 53 : Int32).toNatClampNeg l1) l0 53 : Int32).toNatClampNeg l2) l0 53 : Int32).toNatClampNeg l3) l0 53 : Int32).toNatClampNeg l4) l0 53) + 1)) (M1 := mj_wi (mj_wi (mj_wi (mj_wi (mj_wi M12 (mj_r M12 l0 49) (mj_i M12 l0 53 : Int32).toNatClampNeg l1) (mj_r M12 l0 50) (mj_i (mj_wi M12 (mj_r M12 l0 49) (mj_i M12 l0 53 : Int32).toNatClampNeg l1) l0 53 : Int32).toNatClampNeg l2) (mj_r M12 l0 51) (mj_i (mj_wi (mj_wi M12 (mj_r M12 l0 49) (mj_i M12 l0 53 : Int32).toNatClampNeg l1) (mj_r M12 l0 50) (mj_i (mj_wi M12 (mj_r M12 l0 49) (mj_i M12 l0 53 : Int32).toNatClampNeg l1) l0 53 : Int32).toNatClampNeg l2) l0 53 : Int32).toNatClampNeg l3) (mj_r M12 l0 52) (mj_i (mj_wi (mj_wi (mj_wi M12 (mj_r M12 l0 49) (mj_i M12 l0 53 : Int32).toNatClampNeg l1) (mj_r M12 l0 50) (mj_i (mj_wi M12 (mj_r M12 l0 49) (mj_i M12 l0 53 : Int32).toNatClampNeg l1) l0 53 : Int32).toNatClampNeg l2) (mj_r M12 l0 51) (mj_i (mj_wi (mj_wi M12 (mj_r M12 l0 49) (mj_i M12 l0 53 : Int32).toNatClampNeg l1) (mj_r M12 l0 50) (mj_i (mj_wi M12 (mj_r M12 l0 49) (mj_i M12 l0 53 : Int32).toNatClampNeg l1) l0 53 : Int32).toNatClampNeg l2) l0 53 : Int32).toNatClampNeg l3) l0 53 : Int32).toNatClampNeg l4) l0 53 ((mj_i (mj_wi (mj_wi (mj_wi (mj_wi M12 (mj_r M12 l0 49) (mj_i M12 l0 53 : Int32).toNatClampNeg l1) (mj_r M12 l0 50) (mj_i (mj_wi M12 (mj_r M12 l0 49) (mj_i M12 l0 53 : Int32).toNatClampNeg l1) l0 53 : Int32).toNatClampNeg l2) (mj_r M12 l0 51) (mj_i (mj_wi (mj_wi M12 (mj_r M12 l0 49) (mj_i M12 l0 53 : Int32).toNatClampNeg l1) (mj_r M12 l0 50) (mj_i (mj_wi M12 (mj_r M12 l0 49) (mj_i M12 l0 53 : Int32).toNatClampNeg l1) l0 53 : Int32).toNatClampNeg l2) l0 53 : Int32).toNatClampNeg l3) (mj_r M12 l0 52) (mj_i (mj_wi (mj_wi (mj_wi M12 (mj_r M12 l0 49) (mj_i M12 l0 53 : Int32).toNatClampNeg l1) (mj_r M12 l0 50) (mj_i (mj_wi M12 (mj_r M12 l0 49) (mj_i M12 l0 53 : Int32).toNatClampNeg l1) l0 53 : Int32).toNatClampNeg l2) (mj_r M12 l0 51) (mj_i (mj_wi (mj_wi M12 (mj_r M12 l0 49) (mj_i M12 l0 53 : Int32).toNatClampNeg l1) (mj_r M12 l0 50) (mj_i (mj_wi M12 (mj_r M12 l0 49) (mj_i M12 l0 53 : Int32).toNatClampNeg l1) l0 53 : Int32).toNatClampNeg l2) l0 53 : Int32).toNatClampNeg l3) l0 53 : Int32).toNatClampNeg l4) l0 53) + 1)) hC tf_X12_418 ht15 (Or.inl rfl) ⟨rfl, rfl⟩ (mj_off_wi _ _ _ _) mj_put_wi dX12_line_103 ?_
                refine mx_aload_n (j := 0) hC dX12_line_106 rfl rfl ?_
                refine mx_get (v := vI (mj_i (mj_wi (mj_wi (mj_wi (mj_wi (mj_wi M12 (mj_r M12 l0 49) (mj_i M12 l0 53 : Int32).toNatClampNeg l1) (mj_r M12 l0 50) (mj_i (mj_wi M12 (mj_r M12 l0 49) (mj_i M12 l0 53 : Int32).toNatClampNeg l1) l0 53 : Int32).toNatClampNeg l2) (mj_r M12 l0 51) (mj_i (mj_wi (mj_wi M12 (mj_r M12 l0 49) (mj_i M12 l0 53 : Int32).toNatClampNeg l1) (mj_r M12 l0 50) (mj_i (mj_wi M12 (mj_r M12 l0 49) (mj_i M12 l0 53 : Int32).toNatClampNeg l1) l0 53 : Int32).toNatClampNeg l2) l0 53 : Int32).toNatClampNeg l3) (mj_r M12 l0 52) (mj_i (mj_wi (mj_wi (mj_wi M12 (mj_r M12 l0 49) (mj_i M12 l0 53 : Int32).toNatClampNeg l1) (mj_r M12 l0 50) (mj_i (mj_wi M12 (mj_r M12 l0 49) (mj_i M12 l0 53 : Int32).toNatClampNeg l1) l0 53 : Int32).toNatClampNeg l2) (mj_r M12 l0 51) (mj_i (mj_wi (mj_wi M12 (mj_r M12 l0 49) (mj_i M12 l0 53 : Int32).toNatClampNeg l1) (mj_r M12 l0 50) (mj_i (mj_wi M12 (mj_r M12 l0 49) (mj_i M12 l0 53 : Int32).toNatClampNeg l1) l0 53 : Int32).toNatClampNeg l2) l0 53 : Int32).toNatClampNeg l3) l0 53 : Int32).toNatClampNeg l4) l0 53 ((mj_i (mj_wi (mj_wi (mj_wi (mj_wi M12 (mj_r M12 l0 49) (mj_i M12 l0 53 : Int32).toNatClampNeg l1) (mj_r M12 l0 50) (mj_i (mj_wi M12 (mj_r M12 l0 49) (mj_i M12 l0 53 : Int32).toNatClampNeg l1) l0 53 : Int32).toNatClampNeg l2) (mj_r M12 l0 51) (mj_i (mj_wi (mj_wi M12 (mj_r M12 l0 49) (mj_i M12 l0 53 : Int32).toNatClampNeg l1) (mj_r M12 l0 50) (mj_i (mj_wi M12 (mj_r M12 l0 49) (mj_i M12 l0 53 : Int32).toNatClampNeg l1) l0 53 : Int32).toNatClampNeg l2) l0 53 : Int32).toNatClampNeg l3) (mj_r M12 l0 52) (mj_i (mj_wi (mj_wi (mj_wi M12 (mj_r M12 l0 49) (mj_i M12 l0 53 : Int32).toNatClampNeg l1) (mj_r M12 l0 50) (mj_i (mj_wi M12 (mj_r M12 l0 49) (mj_i M12 l0 53 : Int32).toNatClampNeg l1) l0 53 : Int32).toNatClampNeg l2) (mj_r M12 l0 51) (mj_i (mj_wi (mj_wi M12 (mj_r M12 l0 49) (mj_i M12 l0 53 : Int32).toNatClampNeg l1) (mj_r M12 l0 50) (mj_i (mj_wi M12 (mj_r M12 l0 49) (mj_i M12 l0 53 : Int32).toNatClampNeg l1) l0 53 : Int32).toNatClampNeg l2) l0 53 : Int32).toNatClampNeg l3) l0 53 : Int32).toNatClampNeg l4) l0 53) + 1)) l0 53)) hC tf_X12_418 ht15 rfl dX12_line_107 ?_
                refine mx_iconst (v := 1) hC dX12_line_110 (by decide) ?_
                refine mx_isub hC dX12_line_111 ?_
                exact mx_iret hC hE rfl dX12_line_112 h
              · replace h := mj_yy hc16 h
                refine mx_bipush (v := (-4)) hC dX12_line_52 (by decide) ?_
                exact mx_iret hC hE rfl dX12_line_54 h
            · replace h := mj_nn hc14 h
              refine mx_bipush (v := (-2)) hC dX12_line_40 (by decide) ?_
              exact mx_iret hC hE rfl dX12_line_42 h
def rm_X12_lineIn : Room := { frames := 0, cells := 0, slots := 0, locals := 0 }
theorem dX12_lineIn_0 : decode cX12_lineIn 0 = .ok (.iconst 0, 1) := by decide +kernel
theorem dX12_lineIn_1 : decode cX12_lineIn 1 = .ok (.istore_n 3, 1) := by decide +kernel
theorem dX12_lineIn_2 : decode cX12_lineIn 2 = .ok (.iload_n 3, 1) := by decide +kernel
theorem dX12_lineIn_3 : decode cX12_lineIn 3 = .ok (.aload_n 0, 1) := by decide +kernel
theorem dX12_lineIn_4 : decode cX12_lineIn 4 = .ok (.getfield 418, 3) := by decide +kernel
theorem dX12_lineIn_7 : decode cX12_lineIn 7 = .ok (.if_icmp .ge 30, 3) := by decide +kernel
theorem dX12_lineIn_10 : decode cX12_lineIn 10 = .ok (.iload_n 1, 1) := by decide +kernel
theorem dX12_lineIn_11 : decode cX12_lineIn 11 = .ok (.iload_n 3, 1) := by decide +kernel
theorem dX12_lineIn_12 : decode cX12_lineIn 12 = .ok (.ishr, 1) := by decide +kernel
theorem dX12_lineIn_13 : decode cX12_lineIn 13 = .ok (.iconst 1, 1) := by decide +kernel
theorem dX12_lineIn_14 : decode cX12_lineIn 14 = .ok (.iand, 1) := by decide +kernel
theorem dX12_lineIn_15 : decode cX12_lineIn 15 = .ok (.iconst 1, 1) := by decide +kernel
theorem dX12_lineIn_16 : decode cX12_lineIn 16 = .ok (.if_icmp .ne 15, 3) := by decide +kernel
theorem dX12_lineIn_19 : decode cX12_lineIn 19 = .ok (.aload_n 0, 1) := by decide +kernel
theorem dX12_lineIn_20 : decode cX12_lineIn 20 = .ok (.getfield 118, 3) := by decide +kernel
theorem dX12_lineIn_23 : decode cX12_lineIn 23 = .ok (.iload_n 3, 1) := by decide +kernel
theorem dX12_lineIn_24 : decode cX12_lineIn 24 = .ok (.iaload, 1) := by decide +kernel
theorem dX12_lineIn_25 : decode cX12_lineIn 25 = .ok (.iload_n 2, 1) := by decide +kernel
theorem dX12_lineIn_26 : decode cX12_lineIn 26 = .ok (.if_icmp .ne 5, 3) := by decide +kernel
theorem dX12_lineIn_29 : decode cX12_lineIn 29 = .ok (.iload_n 3, 1) := by decide +kernel
theorem dX12_lineIn_30 : decode cX12_lineIn 30 = .ok (.ireturn, 1) := by decide +kernel
theorem dX12_lineIn_31 : decode cX12_lineIn 31 = .ok (.iinc 3 1, 3) := by decide +kernel
theorem dX12_lineIn_34 : decode cX12_lineIn 34 = .ok (.goto (-32), 3) := by decide +kernel
theorem dX12_lineIn_37 : decode cX12_lineIn 37 = .ok (.iconst (-1), 1) := by decide +kernel
theorem dX12_lineIn_38 : decode cX12_lineIn 38 = .ok (.ireturn, 1) := by decide +kernel
def vb_X12_lineIn_2 (post : Int32 → mj_M → Prop) : Nat → Nat → Int32 → Int32 → Int32 → mj_M → Prop
  | 0 => fun _ _ _ _ _ => False
  | f + 1 => fun l0 l1 l2 l3 M => mj_tag M l0 = 13 ∧ if (mj_i M l0 53) ≤ l3 then (post ((-1)) M) else (if ((l1 >>> (l3 &&& 31)) &&& 1) = 1 then (mj_tag M (mj_r M l0 49) = 101 ∧ vp_in l3 (mj_len M (mj_r M l0 49)) ∧ if (mj_i M (mj_r M l0 49) (l3 : Int32).toNatClampNeg) = l2 then (post l3 M) else (vb_X12_lineIn_2 post f l0 l1 l2 (l3 + 1) M)) else (vb_X12_lineIn_2 post f l0 l1 l2 (l3 + 1) M))
def vc_X12_lineIn (l0 : Nat) (l1 : Int32) (l2 : Int32) (M : mj_M) (post : Int32 → mj_M → Prop) : Prop := ∃ fe, vb_X12_lineIn_2 post fe l0 l1 l2 0 M
set_option maxHeartbeats 4000000 in
set_option maxRecDepth 100000 in
theorem xb_X12_lineIn_2 {g : mj_G} {post : Int32 → mj_M → Prop} (hC : mj_C g yX12_lineIn cX12_lineIn 4 (some .int) rm_X12_lineIn) (hE : mj_E g mj_jI post 0 0) : ∀ (f : Nat) (l0 : Nat) (l1 : Int32) (l2 : Int32) (l3 : Int32) (M : mj_M), vb_X12_lineIn_2 post f l0 l1 l2 l3 M → mj_X g 2 [(0, vR l0), (1, vI l1), (2, vI l2), (3, vI l3)] [] M 0 0 := by
  intro f
  induction f with
  | zero => exact fun _ _ _ _ _ h => absurd h (fun z => z)
  | succ f ih =>
    intro l0 l1 l2 l3 M h
    simp only [vb_X12_lineIn_2] at h
    refine mx_iload_n (j := 3) hC dX12_lineIn_2 rfl rfl ?_
    refine mx_aload_n (j := 0) hC dX12_lineIn_3 rfl rfl ?_
    obtain ⟨ht1, h⟩ := h
    refine mx_get (v := vI (mj_i M l0 53)) hC tf_X12_418 ht1 rfl dX12_lineIn_4 ?_
    refine mx_icmpge (tgt := 37) hC dX12_lineIn_7 (by decide) (fun hc2 => ?_) (fun hc2 => ?_)
    · replace h := mj_yy hc2 h
      refine mx_iconst (v := (-1)) hC dX12_lineIn_37 (by decide) ?_
      exact mx_iret hC hE rfl dX12_lineIn_38 h
    · replace h := mj_nn hc2 h
      refine mx_iload_n (j := 1) hC dX12_lineIn_10 rfl rfl ?_
      refine mx_iload_n (j := 3) hC dX12_lineIn_11 rfl rfl ?_
      refine mx_ishr hC dX12_lineIn_12 ?_
      refine mx_iconst (v := 1) hC dX12_lineIn_13 (by decide) ?_
      refine mx_iand hC dX12_lineIn_14 ?_
      refine mx_iconst (v := 1) hC dX12_lineIn_15 (by decide) ?_
      refine mx_icmpne (tgt := 31) hC dX12_lineIn_16 (by decide) (fun hc3 => ?_) (fun hc3 => ?_)
      · replace h := mj_nn hc3 h
        refine mx_iinc (j := 3) (v := l3 + 1) (L' := [(3, vI (l3 + 1)), (0, vR l0), (1, vI l1), (2, vI l2)]) hC dX12_lineIn_31 rfl rfl (by decide) rfl ?_
        refine mx_goto (tgt := 2) hC dX12_lineIn_34 (by decide) ?_
        refine mx_sub (L' := [(0, vR l0), (1, vI l1), (2, vI l2), (3, vI (l3 + 1))]) [1, 2, 3, 0] rfl ?_
        exact show mj_X g 2 [(0, vR l0), (1, vI l1), (2, vI l2), (3, vI (l3 + 1))] [] M 0 0 from (ih l0 l1 l2 (l3 + 1) M h)
      · replace h := mj_yy hc3 h
        refine mx_aload_n (j := 0) hC dX12_lineIn_19 rfl rfl ?_
        refine mx_get (v := vR (mj_r M l0 49)) hC tf_X12_118 ht1 rfl dX12_lineIn_20 ?_
        refine mx_iload_n (j := 3) hC dX12_lineIn_23 rfl rfl ?_
        obtain ⟨ht4, h⟩ := h
        obtain ⟨hi5, h⟩ := h
        refine mx_iaload hC ht4 hi5 dX12_lineIn_24 ?_
        refine mx_iload_n (j := 2) hC dX12_lineIn_25 rfl rfl ?_
        refine mx_icmpne (tgt := 31) hC dX12_lineIn_26 (by decide) (fun hc6 => ?_) (fun hc6 => ?_)
        · replace h := mj_nn hc6 h
          refine mx_iinc (j := 3) (v := l3 + 1) (L' := [(3, vI (l3 + 1)), (0, vR l0), (1, vI l1), (2, vI l2)]) hC dX12_lineIn_31 rfl rfl (by decide) rfl ?_
          refine mx_goto (tgt := 2) hC dX12_lineIn_34 (by decide) ?_
          refine mx_sub (L' := [(0, vR l0), (1, vI l1), (2, vI l2), (3, vI (l3 + 1))]) [1, 2, 3, 0] rfl ?_
          exact show mj_X g 2 [(0, vR l0), (1, vI l1), (2, vI l2), (3, vI (l3 + 1))] [] M 0 0 from (ih l0 l1 l2 (l3 + 1) M h)
        · replace h := mj_yy hc6 h
          refine mx_iload_n (j := 3) hC dX12_lineIn_29 rfl rfl ?_
          exact mx_iret hC hE rfl dX12_lineIn_30 h
set_option maxHeartbeats 4000000 in
set_option maxRecDepth 100000 in
theorem ct_X12_lineIn {l : Launch} {base : Nat} {D : va_G} {A : ClassId × ClassId × ClassId} (l0 : Nat) (l1 : Int32) (l2 : Int32) (M : mj_M) (post : Int32 → mj_M → Prop) (h : vc_X12_lineIn l0 l1 l2 M post) : mj_Met l base D A mj_jI yX12_lineIn cX12_lineIn 4 (some .int) rm_X12_lineIn 0 0 [vR l0, vI l1, vI l2] M post := by
  refine mj_entry (by decide +kernel) (Nat.le_of_ble_eq_true rfl) (fun g hC hE h1 h2 h3 h4 => ?_)
  show mj_X g 0 [(0, vR l0), (1, vI l1), (2, vI l2)] [] M 0 0
  simp only [vc_X12_lineIn] at h
  refine mx_iconst (v := 0) hC dX12_lineIn_0 (by decide) ?_
  refine mx_istore_n (L' := [(3, vI 0), (0, vR l0), (1, vI l1), (2, vI l2)]) hC dX12_lineIn_1 rfl (by decide) rfl ?_
  refine mx_sub (L' := [(0, vR l0), (1, vI l1), (2, vI l2), (3, vI 0)]) [1, 2, 3, 0] rfl ?_
  obtain ⟨fe, h⟩ := h
  exact show mj_X g 2 [(0, vR l0), (1, vI l1), (2, vI l2), (3, vI 0)] [] M 0 0 from (xb_X12_lineIn_2 hC hE fe l0 l1 l2 0 M h)
theorem tw1816 : (Jvm.Cond.methodLink "LeaseLandModel" (424 : Nat) ({ cls := "LeaseLandModel", name := "lineIn", desc := "(II)I" } : Jvm.MethodName)) ∈ mj_tbl := mj_w 1869 (by decide +kernel) (by decide +kernel)
theorem tw1819 : (Jvm.Cond.code ({ cls := "LeaseLandModel", name := "lineIn", desc := "(II)I" } : Jvm.MethodName) prog_14_method_108_code (4 : Nat) (Option.some Jvm.ClassFile.FieldType.int)) ∈ mj_tbl := mj_w 1872 (by decide +kernel) (by decide +kernel)
theorem tw1818 : (Jvm.Cond.instanceMethod ({ cls := "LeaseLandModel", name := "lineIn", desc := "(II)I" } : Jvm.MethodName)) ∈ mj_tbl := mj_w 1871 (by decide +kernel) (by decide +kernel)
theorem ty_X12_lineIn : mj_YV 12 yX12_lineIn cX12_lineIn 4 (some .int) 2 := ⟨⟨tw1819, tw11, by decide +kernel, by decide +kernel, by decide +kernel⟩, tw1818, mj_w 52 (by decide +kernel) (by decide +kernel), _, rfl, rfl⟩
def rm_X12_isGood : Room := { frames := 1, cells := 0, slots := 0, locals := 23 }
theorem dX12_isGood_0 : decode cX12_isGood 0 = .ok (.aload_n 0, 1) := by decide +kernel
theorem dX12_isGood_1 : decode cX12_isGood 1 = .ok (.iload_n 1, 1) := by decide +kernel
theorem dX12_isGood_2 : decode cX12_isGood 2 = .ok (.aload_n 0, 1) := by decide +kernel
theorem dX12_isGood_3 : decode cX12_isGood 3 = .ok (.getfield 118, 3) := by decide +kernel
theorem dX12_isGood_6 : decode cX12_isGood 6 = .ok (.iload_n 2, 1) := by decide +kernel
theorem dX12_isGood_7 : decode cX12_isGood 7 = .ok (.iaload, 1) := by decide +kernel
theorem dX12_isGood_8 : decode cX12_isGood 8 = .ok (.invokevirtual 424, 3) := by decide +kernel
theorem dX12_isGood_11 : decode cX12_isGood 11 = .ok (.iload_n 2, 1) := by decide +kernel
theorem dX12_isGood_12 : decode cX12_isGood 12 = .ok (.if_icmp .eq 5, 3) := by decide +kernel
theorem dX12_isGood_15 : decode cX12_isGood 15 = .ok (.iconst 0, 1) := by decide +kernel
theorem dX12_isGood_16 : decode cX12_isGood 16 = .ok (.ireturn, 1) := by decide +kernel
theorem dX12_isGood_17 : decode cX12_isGood 17 = .ok (.aload_n 0, 1) := by decide +kernel
theorem dX12_isGood_18 : decode cX12_isGood 18 = .ok (.iload_n 1, 1) := by decide +kernel
theorem dX12_isGood_19 : decode cX12_isGood 19 = .ok (.aload_n 0, 1) := by decide +kernel
theorem dX12_isGood_20 : decode cX12_isGood 20 = .ok (.getfield 121, 3) := by decide +kernel
theorem dX12_isGood_23 : decode cX12_isGood 23 = .ok (.iload_n 2, 1) := by decide +kernel
theorem dX12_isGood_24 : decode cX12_isGood 24 = .ok (.iaload, 1) := by decide +kernel
theorem dX12_isGood_25 : decode cX12_isGood 25 = .ok (.invokevirtual 424, 3) := by decide +kernel
theorem dX12_isGood_28 : decode cX12_isGood 28 = .ok (.istore_n 3, 1) := by decide +kernel
theorem dX12_isGood_29 : decode cX12_isGood 29 = .ok (.iload_n 3, 1) := by decide +kernel
theorem dX12_isGood_30 : decode cX12_isGood 30 = .ok (.ifCond .lt 35, 3) := by decide +kernel
theorem dX12_isGood_33 : decode cX12_isGood 33 = .ok (.aload_n 0, 1) := by decide +kernel
theorem dX12_isGood_34 : decode cX12_isGood 34 = .ok (.getfield 124, 3) := by decide +kernel
theorem dX12_isGood_37 : decode cX12_isGood 37 = .ok (.iload_n 2, 1) := by decide +kernel
theorem dX12_isGood_38 : decode cX12_isGood 38 = .ok (.iaload, 1) := by decide +kernel
theorem dX12_isGood_39 : decode cX12_isGood 39 = .ok (.aload_n 0, 1) := by decide +kernel
theorem dX12_isGood_40 : decode cX12_isGood 40 = .ok (.getfield 124, 3) := by decide +kernel
theorem dX12_isGood_43 : decode cX12_isGood 43 = .ok (.iload_n 3, 1) := by decide +kernel
theorem dX12_isGood_44 : decode cX12_isGood 44 = .ok (.iaload, 1) := by decide +kernel
theorem dX12_isGood_45 : decode cX12_isGood 45 = .ok (.if_icmp .lt 18, 3) := by decide +kernel
theorem dX12_isGood_48 : decode cX12_isGood 48 = .ok (.aload_n 0, 1) := by decide +kernel
theorem dX12_isGood_49 : decode cX12_isGood 49 = .ok (.getfield 127, 3) := by decide +kernel
theorem dX12_isGood_52 : decode cX12_isGood 52 = .ok (.iload_n 2, 1) := by decide +kernel
theorem dX12_isGood_53 : decode cX12_isGood 53 = .ok (.iaload, 1) := by decide +kernel
theorem dX12_isGood_54 : decode cX12_isGood 54 = .ok (.aload_n 0, 1) := by decide +kernel
theorem dX12_isGood_55 : decode cX12_isGood 55 = .ok (.getfield 127, 3) := by decide +kernel
theorem dX12_isGood_58 : decode cX12_isGood 58 = .ok (.iload_n 3, 1) := by decide +kernel
theorem dX12_isGood_59 : decode cX12_isGood 59 = .ok (.iaload, 1) := by decide +kernel
theorem dX12_isGood_60 : decode cX12_isGood 60 = .ok (.if_icmp .le 5, 3) := by decide +kernel
theorem dX12_isGood_63 : decode cX12_isGood 63 = .ok (.iconst 0, 1) := by decide +kernel
theorem dX12_isGood_64 : decode cX12_isGood 64 = .ok (.ireturn, 1) := by decide +kernel
theorem dX12_isGood_65 : decode cX12_isGood 65 = .ok (.iload_n 2, 1) := by decide +kernel
theorem dX12_isGood_66 : decode cX12_isGood 66 = .ok (.istore 4, 2) := by decide +kernel
theorem dX12_isGood_68 : decode cX12_isGood 68 = .ok (.iconst 0, 1) := by decide +kernel
theorem dX12_isGood_69 : decode cX12_isGood 69 = .ok (.istore 5, 2) := by decide +kernel
theorem dX12_isGood_71 : decode cX12_isGood 71 = .ok (.iload 5, 2) := by decide +kernel
theorem dX12_isGood_73 : decode cX12_isGood 73 = .ok (.aload_n 0, 1) := by decide +kernel
theorem dX12_isGood_74 : decode cX12_isGood 74 = .ok (.getfield 418, 3) := by decide +kernel
theorem dX12_isGood_77 : decode cX12_isGood 77 = .ok (.if_icmp .gt 32, 3) := by decide +kernel
theorem dX12_isGood_80 : decode cX12_isGood 80 = .ok (.iload 4, 2) := by decide +kernel
theorem dX12_isGood_82 : decode cX12_isGood 82 = .ok (.ifCond .ge 7, 3) := by decide +kernel
theorem dX12_isGood_85 : decode cX12_isGood 85 = .ok (.iconst (-1), 1) := by decide +kernel
theorem dX12_isGood_86 : decode cX12_isGood 86 = .ok (.goto 15, 3) := by decide +kernel
theorem dX12_isGood_89 : decode cX12_isGood 89 = .ok (.aload_n 0, 1) := by decide +kernel
theorem dX12_isGood_90 : decode cX12_isGood 90 = .ok (.iload_n 1, 1) := by decide +kernel
theorem dX12_isGood_91 : decode cX12_isGood 91 = .ok (.aload_n 0, 1) := by decide +kernel
theorem dX12_isGood_92 : decode cX12_isGood 92 = .ok (.getfield 121, 3) := by decide +kernel
theorem dX12_isGood_95 : decode cX12_isGood 95 = .ok (.iload 4, 2) := by decide +kernel
theorem dX12_isGood_97 : decode cX12_isGood 97 = .ok (.iaload, 1) := by decide +kernel
theorem dX12_isGood_98 : decode cX12_isGood 98 = .ok (.invokevirtual 424, 3) := by decide +kernel
theorem dX12_isGood_101 : decode cX12_isGood 101 = .ok (.istore 4, 2) := by decide +kernel
theorem dX12_isGood_103 : decode cX12_isGood 103 = .ok (.iinc 5 1, 3) := by decide +kernel
theorem dX12_isGood_106 : decode cX12_isGood 106 = .ok (.goto (-35), 3) := by decide +kernel
theorem dX12_isGood_109 : decode cX12_isGood 109 = .ok (.iload 4, 2) := by decide +kernel
theorem dX12_isGood_111 : decode cX12_isGood 111 = .ok (.ifCond .ge 7, 3) := by decide +kernel
theorem dX12_isGood_114 : decode cX12_isGood 114 = .ok (.iconst 1, 1) := by decide +kernel
theorem dX12_isGood_115 : decode cX12_isGood 115 = .ok (.goto 4, 3) := by decide +kernel
theorem dX12_isGood_118 : decode cX12_isGood 118 = .ok (.iconst 0, 1) := by decide +kernel
theorem dX12_isGood_119 : decode cX12_isGood 119 = .ok (.ireturn, 1) := by decide +kernel
def vb_X12_isGood_71 (post : Bool → mj_M → Prop) : Nat → Nat → Int32 → Int32 → Int32 → mj_M → Prop
  | 0 => fun _ _ _ _ _ => False
  | f + 1 => fun l0 l1 l4 l5 M => mj_tag M l0 = 13 ∧ if (mj_i M l0 53) < l5 then (if 0 ≤ l4 then (post false M) else (post true M)) else (if 0 ≤ l4 then (mj_tag M (mj_r M l0 50) = 101 ∧ vp_in l4 (mj_len M (mj_r M l0 50)) ∧ vc_X12_lineIn l0 l1 (mj_i M (mj_r M l0 50) (l4 : Int32).toNatClampNeg) M (fun r7 M8 => vb_X12_isGood_71 post f l0 l1 r7 (l5 + 1) M8)) else (vb_X12_isGood_71 post f l0 l1 ((-1)) (l5 + 1) M))
def vc_X12_isGood (l0 : Nat) (l1 : Int32) (l2 : Int32) (M : mj_M) (post : Bool → mj_M → Prop) : Prop := mj_tag M l0 = 13 ∧ mj_tag M (mj_r M l0 49) = 101 ∧ vp_in l2 (mj_len M (mj_r M l0 49)) ∧ vc_X12_lineIn l0 l1 (mj_i M (mj_r M l0 49) (l2 : Int32).toNatClampNeg) M (fun r12 M13 => if r12 = l2 then (mj_tag M13 l0 = 13 ∧ mj_tag M13 (mj_r M13 l0 50) = 101 ∧ vp_in l2 (mj_len M13 (mj_r M13 l0 50)) ∧ vc_X12_lineIn l0 l1 (mj_i M13 (mj_r M13 l0 50) (l2 : Int32).toNatClampNeg) M13 (fun r18 M19 => if r18 < 0 then (∃ fe, vb_X12_isGood_71 post fe l0 l1 l2 0 M19) else (mj_tag M19 l0 = 13 ∧ mj_tag M19 (mj_r M19 l0 51) = 101 ∧ vp_in l2 (mj_len M19 (mj_r M19 l0 51)) ∧ vp_in r18 (mj_len M19 (mj_r M19 l0 51)) ∧ if (mj_i M19 (mj_r M19 l0 51) (l2 : Int32).toNatClampNeg) < (mj_i M19 (mj_r M19 l0 51) (r18 : Int32).toNatClampNeg) then (post false M19) else (mj_tag M19 (mj_r M19 l0 52) = 101 ∧ vp_in l2 (mj_len M19 (mj_r M19 l0 52)) ∧ vp_in r18 (mj_len M19 (mj_r M19 l0 52)) ∧ if (mj_i M19 (mj_r M19 l0 52) (l2 : Int32).toNatClampNeg) ≤ (mj_i M19 (mj_r M19 l0 52) (r18 : Int32).toNatClampNeg) then (∃ fe, vb_X12_isGood_71 post fe l0 l1 l2 0 M19) else (post false M19))))) else (post false M13))
set_option maxHeartbeats 4000000 in
set_option maxRecDepth 100000 in
theorem xb_X12_isGood_71 {g : mj_G} {post : Bool → mj_M → Prop} (hC : mj_C g yX12_isGood cX12_isGood 6 (some .boolean) rm_X12_isGood) (hE : mj_E g mj_jB post 0 0) : ∀ (f : Nat) (l0 : Nat) (l1 : Int32) (l4 : Int32) (l5 : Int32) (M : mj_M), vb_X12_isGood_71 post f l0 l1 l4 l5 M → mj_X g 71 [(0, vR l0), (1, vI l1), (4, vI l4), (5, vI l5)] [] M 0 0 := by
  intro f
  induction f with
  | zero => exact fun _ _ _ _ _ h => absurd h (fun z => z)
  | succ f ih =>
    intro l0 l1 l4 l5 M h
    simp only [vb_X12_isGood_71] at h
    refine mx_iload (j := 3) hC dX12_isGood_71 rfl ?_
    refine mx_aload_n (j := 0) hC dX12_isGood_73 rfl rfl ?_
    obtain ⟨ht1, h⟩ := h
    refine mx_get (v := vI (mj_i M l0 53)) hC tf_X12_418 ht1 rfl dX12_isGood_74 ?_
    refine mx_icmpgt (tgt := 109) hC dX12_isGood_77 (by decide) (fun hc2 => ?_) (fun hc2 => ?_)
    · replace h := mj_yy hc2 h
      refine mx_iload (j := 2) hC dX12_isGood_109 rfl ?_
      refine mx_ifge (tgt := 118) hC dX12_isGood_111 (by decide) (fun hc3 => ?_) (fun hc3 => ?_)
      · replace h := mj_yy hc3 h
        refine mx_iconst (v := 0) hC dX12_isGood_118 (by decide) ?_
        exact mx_zret (b := false) hC hE rfl dX12_isGood_119 h
      · replace h := mj_nn hc3 h
        refine mx_iconst (v := 1) hC dX12_isGood_114 (by decide) ?_
        refine mx_goto (tgt := 119) hC dX12_isGood_115 (by decide) ?_
        exact mx_zret (b := true) hC hE rfl dX12_isGood_119 h
    · replace h := mj_nn hc2 h
      refine mx_iload (j := 2) hC dX12_isGood_80 rfl ?_
      refine mx_ifge (tgt := 89) hC dX12_isGood_82 (by decide) (fun hc4 => ?_) (fun hc4 => ?_)
      · replace h := mj_yy hc4 h
        refine mx_aload_n (j := 0) hC dX12_isGood_89 rfl rfl ?_
        refine mx_iload_n (j := 1) hC dX12_isGood_90 rfl rfl ?_
        refine mx_aload_n (j := 0) hC dX12_isGood_91 rfl rfl ?_
        refine mx_get (v := vR (mj_r M l0 50)) hC tf_X12_121 ht1 rfl dX12_isGood_92 ?_
        refine mx_iload (j := 2) hC dX12_isGood_95 rfl ?_
        obtain ⟨ht5, h⟩ := h
        obtain ⟨hi6, h⟩ := h
        refine mx_iaload hC ht5 hi6 dX12_isGood_97 ?_
        refine mx_callV (inj := mj_jI) (As := [vI l1, vI (mj_i M (mj_r M l0 50) (l4 : Int32).toNatClampNeg)]) (st := []) hC (ct_X12_lineIn l0 l1 (mj_i M (mj_r M l0 50) (l4 : Int32).toNatClampNeg) M _ h) ty_X12_lineIn tw1816 ht1 rfl (Nat.le_of_ble_eq_true rfl) ⟨rfl, rfl, ⟨by decide, by decide⟩, by decide, by decide⟩ dX12_isGood_98 (fun r7 M8 h => ?_)
        show mj_X g 101 [(0, vR l0), (1, vI l1), (4, vI l4), (5, vI l5)] [vI r7] M8 0 0
        refine mx_istore (L' := [(4, vI r7), (0, vR l0), (1, vI l1), (5, vI l5)]) hC dX12_isGood_101 (by decide) rfl ?_
        refine mx_iinc (j := 3) (v := l5 + 1) (L' := [(5, vI (l5 + 1)), (4, vI r7), (0, vR l0), (1, vI l1)]) hC dX12_isGood_103 rfl rfl (by decide) rfl ?_
        refine mx_goto (tgt := 71) hC dX12_isGood_106 (by decide) ?_
        refine mx_sub (L' := [(0, vR l0), (1, vI l1), (4, vI r7), (5, vI (l5 + 1))]) [2, 3, 1, 0] rfl ?_
        exact show mj_X g 71 [(0, vR l0), (1, vI l1), (4, vI r7), (5, vI (l5 + 1))] [] M8 0 0 from (ih l0 l1 r7 (l5 + 1) M8 h)
      · replace h := mj_nn hc4 h
        refine mx_iconst (v := (-1)) hC dX12_isGood_85 (by decide) ?_
        refine mx_goto (tgt := 101) hC dX12_isGood_86 (by decide) ?_
        refine mx_istore (L' := [(4, vI ((-1))), (0, vR l0), (1, vI l1), (5, vI l5)]) hC dX12_isGood_101 (by decide) rfl ?_
        refine mx_iinc (j := 3) (v := l5 + 1) (L' := [(5, vI (l5 + 1)), (4, vI ((-1))), (0, vR l0), (1, vI l1)]) hC dX12_isGood_103 rfl rfl (by decide) rfl ?_
        refine mx_goto (tgt := 71) hC dX12_isGood_106 (by decide) ?_
        refine mx_sub (L' := [(0, vR l0), (1, vI l1), (4, vI ((-1))), (5, vI (l5 + 1))]) [2, 3, 1, 0] rfl ?_
        exact show mj_X g 71 [(0, vR l0), (1, vI l1), (4, vI ((-1))), (5, vI (l5 + 1))] [] M 0 0 from (ih l0 l1 ((-1)) (l5 + 1) M h)
set_option maxHeartbeats 4000000 in
set_option maxRecDepth 100000 in
theorem ct_X12_isGood {l : Launch} {base : Nat} {D : va_G} {A : ClassId × ClassId × ClassId} (l0 : Nat) (l1 : Int32) (l2 : Int32) (M : mj_M) (post : Bool → mj_M → Prop) (h : vc_X12_isGood l0 l1 l2 M post) : mj_Met l base D A mj_jB yX12_isGood cX12_isGood 6 (some .boolean) rm_X12_isGood 0 0 [vR l0, vI l1, vI l2] M post := by
  refine mj_entry (by decide +kernel) (Nat.le_of_ble_eq_true rfl) (fun g hC hE h1 h2 h3 h4 => ?_)
  show mj_X g 0 [(0, vR l0), (1, vI l1), (2, vI l2)] [] M 0 0
  simp only [vc_X12_isGood] at h
  refine mx_aload_n (j := 0) hC dX12_isGood_0 rfl rfl ?_
  refine mx_iload_n (j := 1) hC dX12_isGood_1 rfl rfl ?_
  refine mx_aload_n (j := 0) hC dX12_isGood_2 rfl rfl ?_
  obtain ⟨ht9, h⟩ := h
  refine mx_get (v := vR (mj_r M l0 49)) hC tf_X12_118 ht9 rfl dX12_isGood_3 ?_
  refine mx_iload_n (j := 2) hC dX12_isGood_6 rfl rfl ?_
  obtain ⟨ht10, h⟩ := h
  obtain ⟨hi11, h⟩ := h
  refine mx_iaload hC ht10 hi11 dX12_isGood_7 ?_
  refine mx_callV (inj := mj_jI) (As := [vI l1, vI (mj_i M (mj_r M l0 49) (l2 : Int32).toNatClampNeg)]) (st := []) hC (ct_X12_lineIn l0 l1 (mj_i M (mj_r M l0 49) (l2 : Int32).toNatClampNeg) M _ h) ty_X12_lineIn tw1816 ht9 rfl (Nat.le_of_ble_eq_true rfl) ⟨rfl, rfl, ⟨by decide, by decide⟩, by decide, by decide⟩ dX12_isGood_8 (fun r12 M13 h => ?_)
  show mj_X g 11 [(0, vR l0), (1, vI l1), (2, vI l2)] [vI r12] M13 0 0
  refine mx_iload_n (j := 2) hC dX12_isGood_11 rfl rfl ?_
  refine mx_icmpeq (tgt := 17) hC dX12_isGood_12 (by decide) (fun hc14 => ?_) (fun hc14 => ?_)
  · replace h := mj_yy hc14 h
    refine mx_aload_n (j := 0) hC dX12_isGood_17 rfl rfl ?_
    refine mx_iload_n (j := 1) hC dX12_isGood_18 rfl rfl ?_
    refine mx_aload_n (j := 0) hC dX12_isGood_19 rfl rfl ?_
    obtain ⟨ht15, h⟩ := h
    refine mx_get (v := vR (mj_r M13 l0 50)) hC tf_X12_121 ht15 rfl dX12_isGood_20 ?_
    refine mx_iload_n (j := 2) hC dX12_isGood_23 rfl rfl ?_
    obtain ⟨ht16, h⟩ := h
    obtain ⟨hi17, h⟩ := h
    refine mx_iaload hC ht16 hi17 dX12_isGood_24 ?_
    refine mx_callV (inj := mj_jI) (As := [vI l1, vI (mj_i M13 (mj_r M13 l0 50) (l2 : Int32).toNatClampNeg)]) (st := []) hC (ct_X12_lineIn l0 l1 (mj_i M13 (mj_r M13 l0 50) (l2 : Int32).toNatClampNeg) M13 _ h) ty_X12_lineIn tw1816 ht15 rfl (Nat.le_of_ble_eq_true rfl) ⟨rfl, rfl, ⟨by decide, by decide⟩, by decide, by decide⟩ dX12_isGood_25 (fun r18 M19 h => ?_)
    show mj_X g 28 [(0, vR l0), (1, vI l1), (2, vI l2)] [vI r18] M19 0 0
    refine mx_istore_n (L' := [(3, vI r18), (0, vR l0), (1, vI l1), (2, vI l2)]) hC dX12_isGood_28 rfl (by decide) rfl ?_
    refine mx_iload_n (j := 0) hC dX12_isGood_29 rfl rfl ?_
    refine mx_iflt (tgt := 65) hC dX12_isGood_30 (by decide) (fun hc20 => ?_) (fun hc20 => ?_)
    · replace h := mj_yy hc20 h
      refine mx_iload_n (j := 3) hC dX12_isGood_65 rfl rfl ?_
      refine mx_istore (L' := [(4, vI l2), (3, vI r18), (0, vR l0), (1, vI l1), (2, vI l2)]) hC dX12_isGood_66 (by decide) rfl ?_
      refine mx_iconst (v := 0) hC dX12_isGood_68 (by decide) ?_
      refine mx_istore (L' := [(5, vI 0), (4, vI l2), (3, vI r18), (0, vR l0), (1, vI l1), (2, vI l2)]) hC dX12_isGood_69 (by decide) rfl ?_
      refine mx_sub (L' := [(0, vR l0), (1, vI l1), (4, vI l2), (5, vI 0)]) [3, 4, 1, 0] rfl ?_
      obtain ⟨fe, h⟩ := h
      exact show mj_X g 71 [(0, vR l0), (1, vI l1), (4, vI l2), (5, vI 0)] [] M19 0 0 from (xb_X12_isGood_71 hC hE fe l0 l1 l2 0 M19 h)
    · replace h := mj_nn hc20 h
      refine mx_aload_n (j := 1) hC dX12_isGood_33 rfl rfl ?_
      obtain ⟨ht21, h⟩ := h
      refine mx_get (v := vR (mj_r M19 l0 51)) hC tf_X12_124 ht21 rfl dX12_isGood_34 ?_
      refine mx_iload_n (j := 3) hC dX12_isGood_37 rfl rfl ?_
      obtain ⟨ht22, h⟩ := h
      obtain ⟨hi23, h⟩ := h
      refine mx_iaload hC ht22 hi23 dX12_isGood_38 ?_
      refine mx_aload_n (j := 1) hC dX12_isGood_39 rfl rfl ?_
      refine mx_get (v := vR (mj_r M19 l0 51)) hC tf_X12_124 ht21 rfl dX12_isGood_40 ?_
      refine mx_iload_n (j := 0) hC dX12_isGood_43 rfl rfl ?_
      obtain ⟨hi24, h⟩ := h
      refine mx_iaload hC ht22 hi24 dX12_isGood_44 ?_
      refine mx_icmplt (tgt := 63) hC dX12_isGood_45 (by decide) (fun hc25 => ?_) (fun hc25 => ?_)
      · replace h := mj_yy hc25 h
        refine mx_iconst (v := 0) hC dX12_isGood_63 (by decide) ?_
        exact mx_zret (b := false) hC hE rfl dX12_isGood_64 h
      · replace h := mj_nn hc25 h
        refine mx_aload_n (j := 1) hC dX12_isGood_48 rfl rfl ?_
        refine mx_get (v := vR (mj_r M19 l0 52)) hC tf_X12_127 ht21 rfl dX12_isGood_49 ?_
        refine mx_iload_n (j := 3) hC dX12_isGood_52 rfl rfl ?_
        obtain ⟨ht26, h⟩ := h
        obtain ⟨hi27, h⟩ := h
        refine mx_iaload hC ht26 hi27 dX12_isGood_53 ?_
        refine mx_aload_n (j := 1) hC dX12_isGood_54 rfl rfl ?_
        refine mx_get (v := vR (mj_r M19 l0 52)) hC tf_X12_127 ht21 rfl dX12_isGood_55 ?_
        refine mx_iload_n (j := 0) hC dX12_isGood_58 rfl rfl ?_
        obtain ⟨hi28, h⟩ := h
        refine mx_iaload hC ht26 hi28 dX12_isGood_59 ?_
        refine mx_icmple (tgt := 65) hC dX12_isGood_60 (by decide) (fun hc29 => ?_) (fun hc29 => ?_)
        · replace h := mj_yy hc29 h
          refine mx_iload_n (j := 3) hC dX12_isGood_65 rfl rfl ?_
          refine mx_istore (L' := [(4, vI l2), (3, vI r18), (0, vR l0), (1, vI l1), (2, vI l2)]) hC dX12_isGood_66 (by decide) rfl ?_
          refine mx_iconst (v := 0) hC dX12_isGood_68 (by decide) ?_
          refine mx_istore (L' := [(5, vI 0), (4, vI l2), (3, vI r18), (0, vR l0), (1, vI l1), (2, vI l2)]) hC dX12_isGood_69 (by decide) rfl ?_
          refine mx_sub (L' := [(0, vR l0), (1, vI l1), (4, vI l2), (5, vI 0)]) [3, 4, 1, 0] rfl ?_
          obtain ⟨fe, h⟩ := h
          exact show mj_X g 71 [(0, vR l0), (1, vI l1), (4, vI l2), (5, vI 0)] [] M19 0 0 from (xb_X12_isGood_71 hC hE fe l0 l1 l2 0 M19 h)
        · replace h := mj_nn hc29 h
          refine mx_iconst (v := 0) hC dX12_isGood_63 (by decide) ?_
          exact mx_zret (b := false) hC hE rfl dX12_isGood_64 h
  · replace h := mj_nn hc14 h
    refine mx_iconst (v := 0) hC dX12_isGood_15 (by decide) ?_
    exact mx_zret (b := false) hC hE rfl dX12_isGood_16 h
theorem tw1812 : (Jvm.Cond.methodLink "LeaseLandModel" (421 : Nat) ({ cls := "LeaseLandModel", name := "isGood", desc := "(II)Z" } : Jvm.MethodName)) ∈ mj_tbl := mj_w 1865 (by decide +kernel) (by decide +kernel)
theorem tw1815 : (Jvm.Cond.code ({ cls := "LeaseLandModel", name := "isGood", desc := "(II)Z" } : Jvm.MethodName) prog_14_method_110_code (6 : Nat) (Option.some Jvm.ClassFile.FieldType.boolean)) ∈ mj_tbl := mj_w 1868 (by decide +kernel) (by decide +kernel)
theorem tw1814 : (Jvm.Cond.instanceMethod ({ cls := "LeaseLandModel", name := "isGood", desc := "(II)Z" } : Jvm.MethodName)) ∈ mj_tbl := mj_w 1867 (by decide +kernel) (by decide +kernel)
theorem ty_X12_isGood : mj_YV 12 yX12_isGood cX12_isGood 6 (some .boolean) 2 := ⟨⟨tw1815, tw11, by decide +kernel, by decide +kernel, by decide +kernel⟩, tw1814, mj_w 51 (by decide +kernel) (by decide +kernel), _, rfl, rfl⟩
def rm_X12_canBe : Room := { frames := 2, cells := 0, slots := 0, locals := 48 }
theorem dX12_canBe_0 : decode cX12_canBe 0 = .ok (.iconst 0, 1) := by decide +kernel
theorem dX12_canBe_1 : decode cX12_canBe 1 = .ok (.istore_n 2, 1) := by decide +kernel
theorem dX12_canBe_2 : decode cX12_canBe 2 = .ok (.iload_n 2, 1) := by decide +kernel
theorem dX12_canBe_3 : decode cX12_canBe 3 = .ok (.aload_n 0, 1) := by decide +kernel
theorem dX12_canBe_4 : decode cX12_canBe 4 = .ok (.getfield 418, 3) := by decide +kernel
theorem dX12_canBe_7 : decode cX12_canBe 7 = .ok (.if_icmp .ge 29, 3) := by decide +kernel
theorem dX12_canBe_10 : decode cX12_canBe 10 = .ok (.iload_n 1, 1) := by decide +kernel
theorem dX12_canBe_11 : decode cX12_canBe 11 = .ok (.iload_n 2, 1) := by decide +kernel
theorem dX12_canBe_12 : decode cX12_canBe 12 = .ok (.ishr, 1) := by decide +kernel
theorem dX12_canBe_13 : decode cX12_canBe 13 = .ok (.iconst 1, 1) := by decide +kernel
theorem dX12_canBe_14 : decode cX12_canBe 14 = .ok (.iand, 1) := by decide +kernel
theorem dX12_canBe_15 : decode cX12_canBe 15 = .ok (.iconst 1, 1) := by decide +kernel
theorem dX12_canBe_16 : decode cX12_canBe 16 = .ok (.if_icmp .ne 14, 3) := by decide +kernel
theorem dX12_canBe_19 : decode cX12_canBe 19 = .ok (.aload_n 0, 1) := by decide +kernel
theorem dX12_canBe_20 : decode cX12_canBe 20 = .ok (.iload_n 1, 1) := by decide +kernel
theorem dX12_canBe_21 : decode cX12_canBe 21 = .ok (.iload_n 2, 1) := by decide +kernel
theorem dX12_canBe_22 : decode cX12_canBe 22 = .ok (.invokevirtual 421, 3) := by decide +kernel
theorem dX12_canBe_25 : decode cX12_canBe 25 = .ok (.ifCond .ne 5, 3) := by decide +kernel
theorem dX12_canBe_28 : decode cX12_canBe 28 = .ok (.iconst 0, 1) := by decide +kernel
theorem dX12_canBe_29 : decode cX12_canBe 29 = .ok (.ireturn, 1) := by decide +kernel
theorem dX12_canBe_30 : decode cX12_canBe 30 = .ok (.iinc 2 1, 3) := by decide +kernel
theorem dX12_canBe_33 : decode cX12_canBe 33 = .ok (.goto (-31), 3) := by decide +kernel
theorem dX12_canBe_36 : decode cX12_canBe 36 = .ok (.iconst 1, 1) := by decide +kernel
theorem dX12_canBe_37 : decode cX12_canBe 37 = .ok (.ireturn, 1) := by decide +kernel
def vb_X12_canBe_2 (post : Bool → mj_M → Prop) : Nat → Nat → Int32 → Int32 → mj_M → Prop
  | 0 => fun _ _ _ _ => False
  | f + 1 => fun l0 l1 l2 M => mj_tag M l0 = 13 ∧ if (mj_i M l0 53) ≤ l2 then (post true M) else (if ((l1 >>> (l2 &&& 31)) &&& 1) = 1 then (vc_X12_isGood l0 l1 l2 M (fun r4 M5 => if r4 = true then (vb_X12_canBe_2 post f l0 l1 (l2 + 1) M5) else (post false M5))) else (vb_X12_canBe_2 post f l0 l1 (l2 + 1) M))
def vc_X12_canBe (l0 : Nat) (l1 : Int32) (M : mj_M) (post : Bool → mj_M → Prop) : Prop := ∃ fe, vb_X12_canBe_2 post fe l0 l1 0 M
set_option maxHeartbeats 4000000 in
set_option maxRecDepth 100000 in
theorem xb_X12_canBe_2 {g : mj_G} {post : Bool → mj_M → Prop} (hC : mj_C g yX12_canBe cX12_canBe 3 (some .boolean) rm_X12_canBe) (hE : mj_E g mj_jB post 0 0) : ∀ (f : Nat) (l0 : Nat) (l1 : Int32) (l2 : Int32) (M : mj_M), vb_X12_canBe_2 post f l0 l1 l2 M → mj_X g 2 [(0, vR l0), (1, vI l1), (2, vI l2)] [] M 0 0 := by
  intro f
  induction f with
  | zero => exact fun _ _ _ _ h => absurd h (fun z => z)
  | succ f ih =>
    intro l0 l1 l2 M h
    simp only [vb_X12_canBe_2] at h
    refine mx_iload_n (j := 2) hC dX12_canBe_2 rfl rfl ?_
    refine mx_aload_n (j := 0) hC dX12_canBe_3 rfl rfl ?_
    obtain ⟨ht1, h⟩ := h
    refine mx_get (v := vI (mj_i M l0 53)) hC tf_X12_418 ht1 rfl dX12_canBe_4 ?_
    refine mx_icmpge (tgt := 36) hC dX12_canBe_7 (by decide) (fun hc2 => ?_) (fun hc2 => ?_)
    · replace h := mj_yy hc2 h
      refine mx_iconst (v := 1) hC dX12_canBe_36 (by decide) ?_
      exact mx_zret (b := true) hC hE rfl dX12_canBe_37 h
    · replace h := mj_nn hc2 h
      refine mx_iload_n (j := 1) hC dX12_canBe_10 rfl rfl ?_
      refine mx_iload_n (j := 2) hC dX12_canBe_11 rfl rfl ?_
      refine mx_ishr hC dX12_canBe_12 ?_
      refine mx_iconst (v := 1) hC dX12_canBe_13 (by decide) ?_
      refine mx_iand hC dX12_canBe_14 ?_
      refine mx_iconst (v := 1) hC dX12_canBe_15 (by decide) ?_
      refine mx_icmpne (tgt := 30) hC dX12_canBe_16 (by decide) (fun hc3 => ?_) (fun hc3 => ?_)
      · replace h := mj_nn hc3 h
        refine mx_iinc (j := 2) (v := l2 + 1) (L' := [(2, vI (l2 + 1)), (0, vR l0), (1, vI l1)]) hC dX12_canBe_30 rfl rfl (by decide) rfl ?_
        refine mx_goto (tgt := 2) hC dX12_canBe_33 (by decide) ?_
        refine mx_sub (L' := [(0, vR l0), (1, vI l1), (2, vI (l2 + 1))]) [1, 2, 0] rfl ?_
        exact show mj_X g 2 [(0, vR l0), (1, vI l1), (2, vI (l2 + 1))] [] M 0 0 from (ih l0 l1 (l2 + 1) M h)
      · replace h := mj_yy hc3 h
        refine mx_aload_n (j := 0) hC dX12_canBe_19 rfl rfl ?_
        refine mx_iload_n (j := 1) hC dX12_canBe_20 rfl rfl ?_
        refine mx_iload_n (j := 2) hC dX12_canBe_21 rfl rfl ?_
        refine mx_callV (inj := mj_jB) (As := [vI l1, vI l2]) (st := []) hC (ct_X12_isGood l0 l1 l2 M _ h) ty_X12_isGood tw1812 ht1 rfl (Nat.le_of_ble_eq_true rfl) ⟨rfl, rfl, ⟨by decide, by decide⟩, by decide, by decide⟩ dX12_canBe_22 (fun r4 M5 h => ?_)
        show mj_X g 25 [(0, vR l0), (1, vI l1), (2, vI l2)] [vI (mj_b r4)] M5 0 0
        refine mx_ifneB (tgt := 30) hC dX12_canBe_25 (by decide) (fun hc6 => ?_) (fun hc6 => ?_)
        · replace h := mj_yy hc6 h
          refine mx_iinc (j := 2) (v := l2 + 1) (L' := [(2, vI (l2 + 1)), (0, vR l0), (1, vI l1)]) hC dX12_canBe_30 rfl rfl (by decide) rfl ?_
          refine mx_goto (tgt := 2) hC dX12_canBe_33 (by decide) ?_
          refine mx_sub (L' := [(0, vR l0), (1, vI l1), (2, vI (l2 + 1))]) [1, 2, 0] rfl ?_
          exact show mj_X g 2 [(0, vR l0), (1, vI l1), (2, vI (l2 + 1))] [] M5 0 0 from (ih l0 l1 (l2 + 1) M5 h)
        · replace h := mj_nn hc6 h
          refine mx_iconst (v := 0) hC dX12_canBe_28 (by decide) ?_
          exact mx_zret (b := false) hC hE rfl dX12_canBe_29 h
set_option maxHeartbeats 4000000 in
set_option maxRecDepth 100000 in
theorem ct_X12_canBe {l : Launch} {base : Nat} {D : va_G} {A : ClassId × ClassId × ClassId} (l0 : Nat) (l1 : Int32) (M : mj_M) (post : Bool → mj_M → Prop) (h : vc_X12_canBe l0 l1 M post) : mj_Met l base D A mj_jB yX12_canBe cX12_canBe 3 (some .boolean) rm_X12_canBe 0 0 [vR l0, vI l1] M post := by
  refine mj_entry (by decide +kernel) (Nat.le_of_ble_eq_true rfl) (fun g hC hE h1 h2 h3 h4 => ?_)
  show mj_X g 0 [(0, vR l0), (1, vI l1)] [] M 0 0
  simp only [vc_X12_canBe] at h
  refine mx_iconst (v := 0) hC dX12_canBe_0 (by decide) ?_
  refine mx_istore_n (L' := [(2, vI 0), (0, vR l0), (1, vI l1)]) hC dX12_canBe_1 rfl (by decide) rfl ?_
  refine mx_sub (L' := [(0, vR l0), (1, vI l1), (2, vI 0)]) [1, 2, 0] rfl ?_
  obtain ⟨fe, h⟩ := h
  exact show mj_X g 2 [(0, vR l0), (1, vI l1), (2, vI 0)] [] M 0 0 from (xb_X12_canBe_2 hC hE fe l0 l1 0 M h)
theorem tw1808 : (Jvm.Cond.methodLink "LeaseLandModel" (427 : Nat) ({ cls := "LeaseLandModel", name := "canBe", desc := "(I)Z" } : Jvm.MethodName)) ∈ mj_tbl := mj_w 1861 (by decide +kernel) (by decide +kernel)
theorem tw1811 : (Jvm.Cond.code ({ cls := "LeaseLandModel", name := "canBe", desc := "(I)Z" } : Jvm.MethodName) prog_14_method_109_code (3 : Nat) (Option.some Jvm.ClassFile.FieldType.boolean)) ∈ mj_tbl := mj_w 1864 (by decide +kernel) (by decide +kernel)
theorem tw1810 : (Jvm.Cond.instanceMethod ({ cls := "LeaseLandModel", name := "canBe", desc := "(I)Z" } : Jvm.MethodName)) ∈ mj_tbl := mj_w 1863 (by decide +kernel) (by decide +kernel)
theorem ty_X12_canBe : mj_YV 12 yX12_canBe cX12_canBe 3 (some .boolean) 1 := ⟨⟨tw1811, tw11, by decide +kernel, by decide +kernel, by decide +kernel⟩, tw1810, mj_w 50 (by decide +kernel) (by decide +kernel), _, rfl, rfl⟩
def rm_X12_can : Room := { frames := 3, cells := 0, slots := 0, locals := 70 }
theorem dX12_can_0 : decode cX12_can 0 = .ok (.iload_n 1, 1) := by decide +kernel
theorem dX12_can_1 : decode cX12_can 1 = .ok (.i2l, 1) := by decide +kernel
theorem dX12_can_2 : decode cX12_can 2 = .ok (.lconst 0, 1) := by decide +kernel
theorem dX12_can_3 : decode cX12_can 3 = .ok (.iconst 1, 1) := by decide +kernel
theorem dX12_can_4 : decode cX12_can 4 = .ok (.aload_n 0, 1) := by decide +kernel
theorem dX12_can_5 : decode cX12_can 5 = .ok (.getfield 418, 3) := by decide +kernel
theorem dX12_can_8 : decode cX12_can 8 = .ok (.ishl, 1) := by decide +kernel
theorem dX12_can_9 : decode cX12_can 9 = .ok (.iconst 1, 1) := by decide +kernel
theorem dX12_can_10 : decode cX12_can 10 = .ok (.isub, 1) := by decide +kernel
theorem dX12_can_11 : decode cX12_can 11 = .ok (.i2l, 1) := by decide +kernel
theorem dX12_can_12 : decode cX12_can 12 = .ok (.invokestatic 133, 3) := by decide +kernel
theorem dX12_can_15 : decode cX12_can 15 = .ok (.ifCond .ne 6, 3) := by decide +kernel
theorem dX12_can_18 : decode cX12_can 18 = .ok (.bipush (-2), 2) := by decide +kernel
theorem dX12_can_20 : decode cX12_can 20 = .ok (.ireturn, 1) := by decide +kernel
theorem dX12_can_21 : decode cX12_can 21 = .ok (.aload_n 0, 1) := by decide +kernel
theorem dX12_can_22 : decode cX12_can 22 = .ok (.iload_n 1, 1) := by decide +kernel
theorem dX12_can_23 : decode cX12_can 23 = .ok (.invokevirtual 427, 3) := by decide +kernel
theorem dX12_can_26 : decode cX12_can 26 = .ok (.ifCond .eq 7, 3) := by decide +kernel
theorem dX12_can_29 : decode cX12_can 29 = .ok (.iconst 1, 1) := by decide +kernel
theorem dX12_can_30 : decode cX12_can 30 = .ok (.goto 4, 3) := by decide +kernel
theorem dX12_can_33 : decode cX12_can 33 = .ok (.iconst 0, 1) := by decide +kernel
theorem dX12_can_34 : decode cX12_can 34 = .ok (.ireturn, 1) := by decide +kernel
def vc_X12_can (l0 : Nat) (l1 : Int32) (M : mj_M) (post : Int32 → mj_M → Prop) : Prop := mj_tag M l0 = 13 ∧ vc_X12_in ((l1 : Int32).toInt64) 0 (((1 <<< ((mj_i M l0 53) &&& 31)) - 1 : Int32).toInt64) M (fun r2 M3 => if r2 = true then (mj_tag M3 l0 = 13 ∧ vc_X12_canBe l0 l1 M3 (fun r6 M7 => if r6 = true then (post 1 M7) else (post 0 M7))) else (post ((-2)) M3))
set_option maxHeartbeats 4000000 in
set_option maxRecDepth 100000 in
theorem ct_X12_can {l : Launch} {base : Nat} {D : va_G} {A : ClassId × ClassId × ClassId} (l0 : Nat) (l1 : Int32) (M : mj_M) (post : Int32 → mj_M → Prop) (h : vc_X12_can l0 l1 M post) : mj_Met l base D A mj_jI yX12_can cX12_can 2 (some .int) rm_X12_can 0 0 [vR l0, vI l1] M post := by
  refine mj_entry (by decide +kernel) (Nat.le_of_ble_eq_true rfl) (fun g hC hE h1 h2 h3 h4 => ?_)
  show mj_X g 0 [(0, vR l0), (1, vI l1)] [] M 0 0
  simp only [vc_X12_can] at h
  refine mx_iload_n (j := 1) hC dX12_can_0 rfl rfl ?_
  refine mx_i2l hC dX12_can_1 ?_
  refine mx_lconst (v := 0) hC dX12_can_2 (by decide) ?_
  refine mx_iconst (v := 1) hC dX12_can_3 (by decide) ?_
  refine mx_aload_n (j := 0) hC dX12_can_4 rfl rfl ?_
  obtain ⟨ht1, h⟩ := h
  refine mx_get (v := vI (mj_i M l0 53)) hC tf_X12_418 ht1 rfl dX12_can_5 ?_
  refine mx_ishl hC dX12_can_8 ?_
  refine mx_iconst (v := 1) hC dX12_can_9 (by decide) ?_
  refine mx_isub hC dX12_can_10 ?_
  refine mx_i2l hC dX12_can_11 ?_
  refine mx_callS (inj := mj_jB) (As := [vL ((l1 : Int32).toInt64), vL 0, vL (((1 <<< ((mj_i M l0 53) &&& 31)) - 1 : Int32).toInt64)]) (st := []) hC (ct_X12_in ((l1 : Int32).toInt64) 0 (((1 <<< ((mj_i M l0 53) &&& 31)) - 1 : Int32).toInt64) M _ h) ty_X12_in tw1379 rfl (Nat.le_of_ble_eq_true rfl) ⟨rfl, rfl, ⟨by decide, by decide⟩, by decide, by decide⟩ dX12_can_12 (fun r2 M3 h => ?_)
  show mj_X g 15 [(0, vR l0), (1, vI l1)] [vI (mj_b r2)] M3 0 0
  refine mx_ifneB (tgt := 21) hC dX12_can_15 (by decide) (fun hc4 => ?_) (fun hc4 => ?_)
  · replace h := mj_yy hc4 h
    refine mx_aload_n (j := 0) hC dX12_can_21 rfl rfl ?_
    refine mx_iload_n (j := 1) hC dX12_can_22 rfl rfl ?_
    obtain ⟨ht5, h⟩ := h
    refine mx_callV (inj := mj_jB) (As := [vI l1]) (st := []) hC (ct_X12_canBe l0 l1 M3 _ h) ty_X12_canBe tw1808 ht5 rfl (Nat.le_of_ble_eq_true rfl) ⟨rfl, rfl, ⟨by decide, by decide⟩, by decide, by decide⟩ dX12_can_23 (fun r6 M7 h => ?_)
    show mj_X g 26 [(0, vR l0), (1, vI l1)] [vI (mj_b r6)] M7 0 0
    refine mx_ifeqB (tgt := 33) hC dX12_can_26 (by decide) (fun hc8 => ?_) (fun hc8 => ?_)
    · replace h := mj_nn hc8 h
      refine mx_iconst (v := 0) hC dX12_can_33 (by decide) ?_
      exact mx_iret hC hE rfl dX12_can_34 h
    · replace h := mj_yy hc8 h
      refine mx_iconst (v := 1) hC dX12_can_29 (by decide) ?_
      refine mx_goto (tgt := 34) hC dX12_can_30 (by decide) ?_
      exact mx_iret hC hE rfl dX12_can_34 h
  · replace h := mj_nn hc4 h
    refine mx_bipush (v := (-2)) hC dX12_can_18 (by decide) ?_
    exact mx_iret hC hE rfl dX12_can_20 h

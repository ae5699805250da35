set_option maxHeartbeats 4000000 in
set_option maxRecDepth 100000 in
theorem xb_L_law_1078 {g : mj_G} {nm : String} {b Ln : Nat} {xs : Nat → Int32} (hC : mj_C g ⟨R_law, nm, ""⟩ code 19 ret room_1) (hE : mj_EL g) (hA : (mj_aa g).2.2.2 = (b, Ln, xs)) {k1040 : Nat → Int32 → Int32 → mj_M → Prop} (hk1040 : ∀ (l1 : Nat) (l12 : Int32) (l15 : Int32) (M : mj_M), k1040 l1 l12 l15 M → mj_X g 1040 [(0, vR (b + 1)), (1, vR l1), (12, vI l12), (15, vI l15)] [] M 151 3500) (l1 : Nat) (l12 : Int32) (l15 : Int32) (s0 : Bool) (M : mj_M) (h : vb_L_law_1078 xs Ln k1040 l1 l12 l15 s0 M) : mj_X g 1078 [(0, vR (b + 1)), (1, vR l1), (12, vI l12), (15, vI l15)] [vI (mj_b s0)] M 151 3500 := by
  simp only [vb_L_law_1078] at h
  refine mx_istore (L' := [(17, vI (mj_b s0)), (0, vR ((b + 1))), (1, vR l1), (12, vI l12), (15, vI l15)]) hC dL_law_1078 (by decide) rfl ?_
  refine mx_iload (j := 0) hC dL_law_1080 rfl ?_
  refine mx_ifeqB (tgt := 1089) hC dL_law_1082 (by decide) (fun hc83 => ?_) (fun hc83 => ?_)
  · replace h := mj_nn hc83 h
    refine mx_iload (j := 4) hC dL_law_1089 rfl ?_
    refine mx_iconst (v := 3) hC dL_law_1091 (by decide) ?_
    refine mx_ishr hC dL_law_1092 ?_
    refine mx_iconst (v := 1) hC dL_law_1093 (by decide) ?_
    refine mx_iand hC dL_law_1094 ?_
    refine mx_ifne (tgt := 1103) hC dL_law_1095 (by decide) (fun hc84 => ?_) (fun hc84 => ?_)
    · replace h := mj_nn hc84 h
      refine mx_bipush (v := 32) hC dL_law_1103 (by decide) ?_
      refine mx_sub (L' := [(0, vR (b + 1)), (1, vR l1), (12, vI l12), (15, vI l15), (17, vI (mj_b s0))]) [1, 2, 3, 4, 0] rfl ?_
      exact show mj_X g 1105 [(0, vR (b + 1)), (1, vR l1), (12, vI l12), (15, vI l15), (17, vI (mj_b s0))] [vI 32] M 151 3500 from (xb_L_law_1105 hC hE hA hk1040 l1 l12 l15 s0 32 M h)
    · replace h := mj_yy hc84 h
      refine mx_bipush (v := 8) hC dL_law_1098 (by decide) ?_
      refine mx_goto (tgt := 1105) hC dL_law_1100 (by decide) ?_
      refine mx_sub (L' := [(0, vR (b + 1)), (1, vR l1), (12, vI l12), (15, vI l15), (17, vI (mj_b s0))]) [1, 2, 3, 4, 0] rfl ?_
      exact show mj_X g 1105 [(0, vR (b + 1)), (1, vR l1), (12, vI l12), (15, vI l15), (17, vI (mj_b s0))] [vI 8] M 151 3500 from (xb_L_law_1105 hC hE hA hk1040 l1 l12 l15 s0 8 M h)
  · replace h := mj_yy hc83 h
    refine mx_iconst (v := 0) hC dL_law_1085 (by decide) ?_
    refine mx_goto (tgt := 1105) hC dL_law_1086 (by decide) ?_
    refine mx_sub (L' := [(0, vR (b + 1)), (1, vR l1), (12, vI l12), (15, vI l15), (17, vI (mj_b s0))]) [1, 2, 3, 4, 0] rfl ?_
    exact show mj_X g 1105 [(0, vR (b + 1)), (1, vR l1), (12, vI l12), (15, vI l15), (17, vI (mj_b s0))] [vI 0] M 151 3500 from (xb_L_law_1105 hC hE hA hk1040 l1 l12 l15 s0 0 M h)
set_option maxHeartbeats 4000000 in
set_option maxRecDepth 100000 in
theorem xb_L_law_1180 {g : mj_G} {nm : String} {b Ln : Nat} {xs : Nat → Int32} (hC : mj_C g ⟨R_law, nm, ""⟩ code 19 ret room_1) (hE : mj_EL g) (hA : (mj_aa g).2.2.2 = (b, Ln, xs)) (l1 : Nat) (M : mj_M) (h : vb_L_law_1180 xs Ln l1 M) : mj_X g 1180 [(1, vR l1)] [] M 151 3500 := by
  simp only [vb_L_law_1180] at h
  refine mx_aload_n (j := 0) hC dL_law_1180 rfl rfl ?_
  refine mx_iconst (v := 1) hC dL_law_1181 (by decide) ?_
  obtain ⟨ht85, h⟩ := h
  refine mx_callV (inj := mj_jI) (As := [vI 1]) (st := []) hC (ct_X11_relieve l1 1 M _ h) ty_X11_relieve tw934 ht85 rfl (Nat.le_of_ble_eq_true rfl) ⟨rfl, rfl, ⟨by decide, by decide⟩, by show _ ≤ 600000; omega, by show _ ≤ 7302250; omega⟩ dL_law_1182 (fun r86 M87 h => ?_)
  show mj_X g 1185 [(1, vR l1)] [vI r86] M87 151 3500
  refine mx_bipush (v := (-3)) hC dL_law_1185 (by decide) ?_
  refine mx_icmpne (tgt := 1194) hC dL_law_1187 (by decide) (fun hc88 => ?_) (fun hc88 => ?_)
  · replace h := mj_nn hc88 h
    refine mx_iconst (v := 0) hC dL_law_1194 (by decide) ?_
    exact h.elim
  · replace h := mj_yy hc88 h
    refine mx_iconst (v := 1) hC dL_law_1190 (by decide) ?_
    refine mx_goto (tgt := 1195) hC dL_law_1191 (by decide) ?_
    exact mx_lwret hC hE dL_law_1195 (by omega) (by omega)
set_option maxHeartbeats 4000000 in
set_option maxRecDepth 100000 in
theorem xb_L_law_1169 {g : mj_G} {nm : String} {b Ln : Nat} {xs : Nat → Int32} (hC : mj_C g ⟨R_law, nm, ""⟩ code 19 ret room_1) (hE : mj_EL g) (hA : (mj_aa g).2.2.2 = (b, Ln, xs)) (l1 : Nat) (l12 : Int32) (M : mj_M) (h : vb_L_law_1169 xs Ln l1 l12 M) : mj_X g 1169 [(1, vR l1), (12, vI l12)] [] M 151 3500 := by
  simp only [vb_L_law_1169] at h
  refine mx_aload_n (j := 0) hC dL_law_1169 rfl rfl ?_
  refine mx_iconst (v := 3) hC dL_law_1170 (by decide) ?_
  refine mx_iconst (v := 2) hC dL_law_1171 (by decide) ?_
  obtain ⟨ht89, h⟩ := h
  refine mx_callV (inj := mj_jI) (As := [vI 3, vI 2]) (st := []) hC (ct_X11_first l1 3 2 M _ h) ty_X11_first tw714 ht89 rfl (Nat.le_of_ble_eq_true rfl) ⟨rfl, rfl, ⟨by decide, by decide⟩, by show _ ≤ 600000; omega, by show _ ≤ 7302250; omega⟩ dL_law_1172 (fun r90 M91 h => ?_)
  show mj_X g 1175 [(1, vR l1), (12, vI l12)] [vI r90] M91 151 3500
  refine mx_iload (j := 1) hC dL_law_1175 rfl ?_
  refine mx_icmpne (tgt := 1194) hC dL_law_1177 (by decide) (fun hc92 => ?_) (fun hc92 => ?_)
  · replace h := mj_nn hc92 h
    refine mx_iconst (v := 0) hC dL_law_1194 (by decide) ?_
    exact h.elim
  · replace h := mj_yy hc92 h
    refine mx_sub (L' := [(1, vR l1)]) [0] rfl ?_
    exact show mj_X g 1180 [(1, vR l1)] [] M91 151 3500 from (xb_L_law_1180 hC hE hA l1 M91 h)
set_option maxHeartbeats 4000000 in
set_option maxRecDepth 100000 in
theorem xb_L_law_1159 {g : mj_G} {nm : String} {b Ln : Nat} {xs : Nat → Int32} (hC : mj_C g ⟨R_law, nm, ""⟩ code 19 ret room_1) (hE : mj_EL g) (hA : (mj_aa g).2.2.2 = (b, Ln, xs)) (l1 : Nat) (l12 : Int32) (M : mj_M) (h : vb_L_law_1159 xs Ln l1 l12 M) : mj_X g 1159 [(1, vR l1), (12, vI l12)] [] M 151 3500 := by
  simp only [vb_L_law_1159] at h
  refine mx_aload_n (j := 0) hC dL_law_1159 rfl rfl ?_
  refine mx_iconst (v := 3) hC dL_law_1160 (by decide) ?_
  refine mx_iconst (v := 3) hC dL_law_1161 (by decide) ?_
  obtain ⟨ht93, h⟩ := h
  refine mx_callV (inj := mj_jI) (As := [vI 3, vI 3]) (st := []) hC (ct_X11_right l1 3 3 M _ h) ty_X11_right tw641 ht93 rfl (Nat.le_of_ble_eq_true rfl) ⟨rfl, rfl, ⟨by decide, by decide⟩, by show _ ≤ 600000; omega, by show _ ≤ 7302250; omega⟩ dL_law_1162 (fun r94 M95 h => ?_)
  show mj_X g 1165 [(1, vR l1), (12, vI l12)] [vI r94] M95 151 3500
  refine mx_iconst (v := 1) hC dL_law_1165 (by decide) ?_
  refine mx_icmpne (tgt := 1194) hC dL_law_1166 (by decide) (fun hc96 => ?_) (fun hc96 => ?_)
  · replace h := mj_nn hc96 h
    refine mx_iconst (v := 0) hC dL_law_1194 (by decide) ?_
    exact h.elim
  · replace h := mj_yy hc96 h
    refine mx_sub (L' := [(1, vR l1), (12, vI l12)]) [0, 1] rfl ?_
    exact show mj_X g 1169 [(1, vR l1), (12, vI l12)] [] M95 151 3500 from (xb_L_law_1169 hC hE hA l1 l12 M95 h)
set_option maxHeartbeats 4000000 in
set_option maxRecDepth 100000 in
theorem xb_L_law_1040 {g : mj_G} {nm : String} {b Ln : Nat} {xs : Nat → Int32} (hC : mj_C g ⟨R_law, nm, ""⟩ code 19 ret room_1) (hE : mj_EL g) (hA : (mj_aa g).2.2.2 = (b, Ln, xs)) : ∀ (f : Nat) (l1 : Nat) (l12 : Int32) (l15 : Int32) (M : mj_M), vb_L_law_1040 xs Ln f l1 l12 l15 M → mj_X g 1040 [(0, vR (b + 1)), (1, vR l1), (12, vI l12), (15, vI l15)] [] M 151 3500 := by
  intro f
  induction f with
  | zero => exact fun _ _ _ _ h => absurd h (fun z => z)
  | succ f ih =>
    intro l1 l12 l15 M h
    simp only [vb_L_law_1040] at h
    refine mx_iload (j := 3) hC dL_law_1040 rfl ?_
    refine mx_sipush (v := 1024) hC dL_law_1042 (by decide) ?_
    refine mx_icmpge (tgt := 1159) hC dL_law_1045 (by decide) (fun hc97 => ?_) (fun hc97 => ?_)
    · replace h := mj_yy hc97 h
      refine mx_sub (L' := [(1, vR l1), (12, vI l12)]) [1, 2] rfl ?_
      exact show mj_X g 1159 [(1, vR l1), (12, vI l12)] [] M 151 3500 from (xb_L_law_1159 hC hE hA l1 l12 M h)
    · replace h := mj_nn hc97 h
      refine mx_iload (j := 3) hC dL_law_1048 rfl ?_
      refine mx_iconst (v := 3) hC dL_law_1050 (by decide) ?_
      refine mx_ishr hC dL_law_1051 ?_
      refine mx_iconst (v := 1) hC dL_law_1052 (by decide) ?_
      refine mx_iand hC dL_law_1053 ?_
      refine mx_iconst (v := 2) hC dL_law_1054 (by decide) ?_
      refine mx_imul hC dL_law_1055 ?_
      refine mx_iload (j := 3) hC dL_law_1056 rfl ?_
      refine mx_iconst (v := 5) hC dL_law_1058 (by decide) ?_
      refine mx_ishr hC dL_law_1059 ?_
      refine mx_iconst (v := 1) hC dL_law_1060 (by decide) ?_
      refine mx_iand hC dL_law_1061 ?_
      refine mx_iadd hC dL_law_1062 ?_
      refine mx_istore (L' := [(16, vI ((((l15 >>> ((3 : Int32) &&& 31)) &&& 1) * 2) + ((l15 >>> ((5 : Int32) &&& 31)) &&& 1))), (0, vR ((b + 1))), (1, vR l1), (12, vI l12), (15, vI l15)]) hC dL_law_1063 (by decide) rfl ?_
      refine mx_iconst (v := 2) hC dL_law_1065 (by decide) ?_
      refine mx_iload (j := 0) hC dL_law_1066 rfl ?_
      refine mx_imul hC dL_law_1068 ?_
      refine mx_iconst (v := 3) hC dL_law_1069 (by decide) ?_
      refine mx_icmplt (tgt := 1077) hC dL_law_1070 (by decide) (fun hc98 => ?_) (fun hc98 => ?_)
      · replace h := mj_yy hc98 h
        refine mx_iconst (v := 0) hC dL_law_1077 (by decide) ?_
        refine mx_sub (L' := [(0, vR (b + 1)), (1, vR l1), (12, vI l12), (15, vI l15)]) [1, 2, 3, 4] rfl ?_
        exact show mj_X g 1078 [(0, vR (b + 1)), (1, vR l1), (12, vI l12), (15, vI l15)] [vI (mj_b false)] M 151 3500 from (xb_L_law_1078 hC hE hA ih l1 l12 l15 false M h)
      · replace h := mj_nn hc98 h
        refine mx_iconst (v := 1) hC dL_law_1073 (by decide) ?_
        refine mx_goto (tgt := 1078) hC dL_law_1074 (by decide) ?_
        refine mx_sub (L' := [(0, vR (b + 1)), (1, vR l1), (12, vI l12), (15, vI l15)]) [1, 2, 3, 4] rfl ?_
        exact show mj_X g 1078 [(0, vR (b + 1)), (1, vR l1), (12, vI l12), (15, vI l15)] [vI (mj_b true)] M 151 3500 from (xb_L_law_1078 hC hE hA ih l1 l12 l15 true M h)
set_option maxHeartbeats 4000000 in
set_option maxRecDepth 100000 in
theorem xb_L_law_1032 {g : mj_G} {nm : String} {b Ln : Nat} {xs : Nat → Int32} (hC : mj_C g ⟨R_law, nm, ""⟩ code 19 ret room_1) (hE : mj_EL g) (hA : (mj_aa g).2.2.2 = (b, Ln, xs)) (l1 : Nat) (l12 : Int32) (s0 : Int32) (s1 : Int32) (M : mj_M) (h : vb_L_law_1032 xs Ln l1 l12 s0 s1 M) : mj_X g 1032 [(0, vR (b + 1)), (1, vR l1), (12, vI l12)] [vI s1, vI s0] M 151 3500 := by
  simp only [vb_L_law_1032] at h
  refine mx_icmpeq (tgt := 1037) hC dL_law_1032 (by decide) (fun hc99 => ?_) (fun hc99 => ?_)
  · replace h := mj_yy hc99 h
    refine mx_iconst (v := 0) hC dL_law_1037 (by decide) ?_
    refine mx_istore (L' := [(15, vI 0), (0, vR ((b + 1))), (1, vR l1), (12, vI l12)]) hC dL_law_1038 (by decide) rfl ?_
    refine mx_sub (L' := [(0, vR (b + 1)), (1, vR l1), (12, vI l12), (15, vI 0)]) [1, 2, 3, 0] rfl ?_
    exact show mj_X g 1040 [(0, vR (b + 1)), (1, vR l1), (12, vI l12), (15, vI 0)] [] M 151 3500 from (xb_L_law_1040 hC hE hA 1100 l1 l12 0 M h)
  · replace h := mj_nn hc99 h
    refine mx_iconst (v := 0) hC dL_law_1035 (by decide) ?_
    exact h.elim
set_option maxHeartbeats 4000000 in
set_option maxRecDepth 100000 in
theorem xb_L_law_1007 {g : mj_G} {nm : String} {b Ln : Nat} {xs : Nat → Int32} (hC : mj_C g ⟨R_law, nm, ""⟩ code 19 ret room_1) (hE : mj_EL g) (hA : (mj_aa g).2.2.2 = (b, Ln, xs)) (l1 : Nat) (l8 : Bool) (l12 : Int32) (M : mj_M) (h : vb_L_law_1007 xs Ln l1 l8 l12 M) : mj_X g 1007 [(0, vR (b + 1)), (1, vR l1), (8, vI (mj_b l8)), (12, vI l12)] [] M 150 3485 := by
  simp only [vb_L_law_1007] at h
  refine mx_aload_n (j := 1) hC dL_law_1007 rfl rfl ?_
  refine mx_iconst (v := 0) hC dL_law_1008 (by decide) ?_
  refine mx_iconst (v := 2) hC dL_law_1009 (by decide) ?_
  refine mx_iload (j := 3) hC dL_law_1010 rfl ?_
  refine mx_iload (j := 3) hC dL_law_1012 rfl ?_
  refine mx_sipush (v := 500) hC dL_law_1014 (by decide) ?_
  refine mx_iadd hC dL_law_1017 ?_
  refine mx_iconst (v := 5) hC dL_law_1018 (by decide) ?_
  obtain ⟨ht100, h⟩ := h
  refine mx_callV (inj := mj_jI) (As := [vI 0, vI 2, vI l12, vI (l12 + 500), vI 5]) (st := []) hC (ct_X11_lease l1 0 2 l12 (l12 + 500) 5 M _ h) ty_X11_lease tw373 ht100 rfl (Nat.le_of_ble_eq_true rfl) ⟨rfl, rfl, ⟨by decide, by decide⟩, by show _ ≤ 600000; omega, by show _ ≤ 7302250; omega⟩ dL_law_1019 (fun r101 M102 h => ?_)
  show mj_X g 1022 [(0, vR ((b + 1))), (1, vR l1), (8, vI (mj_b l8)), (12, vI l12)] [vI r101] M102 151 3500
  refine mx_iload (j := 2) hC dL_law_1022 rfl ?_
  refine mx_ifeqB (tgt := 1031) hC dL_law_1024 (by decide) (fun hc103 => ?_) (fun hc103 => ?_)
  · replace h := mj_nn hc103 h
    refine mx_iconst (v := 4) hC dL_law_1031 (by decide) ?_
    refine mx_sub (L' := [(0, vR (b + 1)), (1, vR l1), (12, vI l12)]) [0, 1, 3] rfl ?_
    exact show mj_X g 1032 [(0, vR (b + 1)), (1, vR l1), (12, vI l12)] [vI 4, vI r101] M102 151 3500 from (xb_L_law_1032 hC hE hA l1 l12 r101 4 M102 h)
  · replace h := mj_yy hc103 h
    refine mx_iconst (v := 5) hC dL_law_1027 (by decide) ?_
    refine mx_goto (tgt := 1032) hC dL_law_1028 (by decide) ?_
    refine mx_sub (L' := [(0, vR (b + 1)), (1, vR l1), (12, vI l12)]) [0, 1, 3] rfl ?_
    exact show mj_X g 1032 [(0, vR (b + 1)), (1, vR l1), (12, vI l12)] [vI 5, vI r101] M102 151 3500 from (xb_L_law_1032 hC hE hA l1 l12 r101 5 M102 h)
set_option maxHeartbeats 4000000 in
set_option maxRecDepth 100000 in
theorem xb_L_law_992 {g : mj_G} {nm : String} {b Ln : Nat} {xs : Nat → Int32} (hC : mj_C g ⟨R_law, nm, ""⟩ code 19 ret room_1) (hE : mj_EL g) (hA : (mj_aa g).2.2.2 = (b, Ln, xs)) (l1 : Nat) (l8 : Bool) (l12 : Int32) (M : mj_M) (h : vb_L_law_992 xs Ln l1 l8 l12 M) : mj_X g 992 [(0, vR (b + 1)), (1, vR l1), (8, vI (mj_b l8)), (12, vI l12)] [] M 150 3485 := by
  simp only [vb_L_law_992] at h
  refine mx_aload_n (j := 1) hC dL_law_992 rfl rfl ?_
  refine mx_iconst (v := 2) hC dL_law_993 (by decide) ?_
  refine mx_iconst (v := 0) hC dL_law_994 (by decide) ?_
  obtain ⟨ht104, h⟩ := h
  refine mx_callV (inj := mj_jL) (As := [vI 2, vI 0]) (st := []) hC (ct_X11_price l1 2 0 M _ h) ty_X11_price tw848 ht104 rfl (Nat.le_of_ble_eq_true rfl) ⟨rfl, rfl, ⟨by decide, by decide⟩, by show _ ≤ 600000; omega, by show _ ≤ 7302250; omega⟩ dL_law_995 (fun r105 M106 h => ?_)
  show mj_X g 998 [(0, vR ((b + 1))), (1, vR l1), (8, vI (mj_b l8)), (12, vI l12)] [vL r105] M106 150 3485
  refine mx_ldc2 (v := (-1000000000000003)) hC dL_law_998 tw954 ?_
  refine mx_lcmp hC dL_law_1001 ?_
  refine mx_ifeq (tgt := 1007) hC dL_law_1002 (by decide) (fun hc107 => ?_) (fun hc107 => ?_)
  · replace h := mj_yy hc107 h
    refine mx_sub (L' := [(0, vR (b + 1)), (1, vR l1), (8, vI (mj_b l8)), (12, vI l12)]) [0, 1, 2, 3] rfl ?_
    exact show mj_X g 1007 [(0, vR (b + 1)), (1, vR l1), (8, vI (mj_b l8)), (12, vI l12)] [] M106 150 3485 from (xb_L_law_1007 hC hE hA l1 l8 l12 M106 h)
  · replace h := mj_nn hc107 h
    refine mx_iconst (v := 0) hC dL_law_1005 (by decide) ?_
    exact h.elim
set_option maxHeartbeats 4000000 in
set_option maxRecDepth 100000 in
theorem xb_L_law_982 {g : mj_G} {nm : String} {b Ln : Nat} {xs : Nat → Int32} (hC : mj_C g ⟨R_law, nm, ""⟩ code 19 ret room_1) (hE : mj_EL g) (hA : (mj_aa g).2.2.2 = (b, Ln, xs)) (l1 : Nat) (l8 : Bool) (l12 : Int32) (M : mj_M) (h : vb_L_law_982 xs Ln l1 l8 l12 M) : mj_X g 982 [(0, vR (b + 1)), (1, vR l1), (8, vI (mj_b l8)), (12, vI l12)] [] M 150 3485 := by
  simp only [vb_L_law_982] at h
  refine mx_aload_n (j := 1) hC dL_law_982 rfl rfl ?_
  refine mx_iconst (v := 1) hC dL_law_983 (by decide) ?_
  refine mx_iconst (v := (-1)) hC dL_law_984 (by decide) ?_
  obtain ⟨ht108, h⟩ := h
  refine mx_callV (inj := mj_jI) (As := [vI 1, vI ((-1))]) (st := []) hC (ct_X11_chain l1 1 ((-1)) M _ h) ty_X11_chain tw424 ht108 rfl (Nat.le_of_ble_eq_true rfl) ⟨rfl, rfl, ⟨by decide, by decide⟩, by show _ ≤ 600000; omega, by show _ ≤ 7302250; omega⟩ dL_law_985 (fun r109 M110 h => ?_)
  show mj_X g 988 [(0, vR ((b + 1))), (1, vR l1), (8, vI (mj_b l8)), (12, vI l12)] [vI r109] M110 150 3485
  refine mx_iconst (v := 1) hC dL_law_988 (by decide) ?_
  refine mx_icmpne (tgt := 1005) hC dL_law_989 (by decide) (fun hc111 => ?_) (fun hc111 => ?_)
  · replace h := mj_nn hc111 h
    refine mx_iconst (v := 0) hC dL_law_1005 (by decide) ?_
    exact h.elim
  · replace h := mj_yy hc111 h
    refine mx_sub (L' := [(0, vR (b + 1)), (1, vR l1), (8, vI (mj_b l8)), (12, vI l12)]) [0, 1, 2, 3] rfl ?_
    exact show mj_X g 992 [(0, vR (b + 1)), (1, vR l1), (8, vI (mj_b l8)), (12, vI l12)] [] M110 150 3485 from (xb_L_law_992 hC hE hA l1 l8 l12 M110 h)
set_option maxHeartbeats 4000000 in
set_option maxRecDepth 100000 in
theorem xb_L_law_972 {g : mj_G} {nm : String} {b Ln : Nat} {xs : Nat → Int32} (hC : mj_C g ⟨R_law, nm, ""⟩ code 19 ret room_1) (hE : mj_EL g) (hA : (mj_aa g).2.2.2 = (b, Ln, xs)) (l1 : Nat) (l8 : Bool) (l12 : Int32) (M : mj_M) (h : vb_L_law_972 xs Ln l1 l8 l12 M) : mj_X g 972 [(0, vR (b + 1)), (1, vR l1), (8, vI (mj_b l8)), (12, vI l12)] [] M 150 3485 := by
  simp only [vb_L_law_972] at h
  refine mx_aload_n (j := 1) hC dL_law_972 rfl rfl ?_
  refine mx_iconst (v := 0) hC dL_law_973 (by decide) ?_
  refine mx_iconst (v := (-1)) hC dL_law_974 (by decide) ?_
  obtain ⟨ht112, h⟩ := h
  refine mx_callV (inj := mj_jI) (As := [vI 0, vI ((-1))]) (st := []) hC (ct_X11_chain l1 0 ((-1)) M _ h) ty_X11_chain tw424 ht112 rfl (Nat.le_of_ble_eq_true rfl) ⟨rfl, rfl, ⟨by decide, by decide⟩, by show _ ≤ 600000; omega, by show _ ≤ 7302250; omega⟩ dL_law_975 (fun r113 M114 h => ?_)
  show mj_X g 978 [(0, vR ((b + 1))), (1, vR l1), (8, vI (mj_b l8)), (12, vI l12)] [vI r113] M114 150 3485
  refine mx_iconst (v := 2) hC dL_law_978 (by decide) ?_
  refine mx_icmpne (tgt := 1005) hC dL_law_979 (by decide) (fun hc115 => ?_) (fun hc115 => ?_)
  · replace h := mj_nn hc115 h
    refine mx_iconst (v := 0) hC dL_law_1005 (by decide) ?_
    exact h.elim
  · replace h := mj_yy hc115 h
    refine mx_sub (L' := [(0, vR (b + 1)), (1, vR l1), (8, vI (mj_b l8)), (12, vI l12)]) [0, 1, 2, 3] rfl ?_
    exact show mj_X g 982 [(0, vR (b + 1)), (1, vR l1), (8, vI (mj_b l8)), (12, vI l12)] [] M114 150 3485 from (xb_L_law_982 hC hE hA l1 l8 l12 M114 h)
set_option maxHeartbeats 4000000 in
set_option maxRecDepth 100000 in
theorem xb_L_law_961 {g : mj_G} {nm : String} {b Ln : Nat} {xs : Nat → Int32} (hC : mj_C g ⟨R_law, nm, ""⟩ code 19 ret room_1) (hE : mj_EL g) (hA : (mj_aa g).2.2.2 = (b, Ln, xs)) (l1 : Nat) (l4 : Int32) (l8 : Bool) (l12 : Int32) (M : mj_M) (h : vb_L_law_961 xs Ln l1 l4 l8 l12 M) : mj_X g 961 [(0, vR (b + 1)), (1, vR l1), (4, vI l4), (8, vI (mj_b l8)), (12, vI l12)] [] M 150 3485 := by
  simp only [vb_L_law_961] at h
  refine mx_aload_n (j := 1) hC dL_law_961 rfl rfl ?_
  refine mx_iconst (v := 3) hC dL_law_962 (by decide) ?_
  refine mx_iconst (v := 4) hC dL_law_963 (by decide) ?_
  obtain ⟨ht116, h⟩ := h
  refine mx_callV (inj := mj_jI) (As := [vI 3, vI 4]) (st := []) hC (ct_X11_about l1 3 4 M _ h) ty_X11_about tw415 ht116 rfl (Nat.le_of_ble_eq_true rfl) ⟨rfl, rfl, ⟨by decide, by decide⟩, by show _ ≤ 600000; omega, by show _ ≤ 7302250; omega⟩ dL_law_964 (fun r117 M118 h => ?_)
  show mj_X g 967 [(0, vR ((b + 1))), (1, vR l1), (4, vI l4), (8, vI (mj_b l8)), (12, vI l12)] [vI r117] M118 150 3485
  refine mx_iload (j := 2) hC dL_law_967 rfl ?_
  refine mx_icmpne (tgt := 1005) hC dL_law_969 (by decide) (fun hc119 => ?_) (fun hc119 => ?_)
  · replace h := mj_nn hc119 h
    refine mx_iconst (v := 0) hC dL_law_1005 (by decide) ?_
    exact h.elim
  · replace h := mj_yy hc119 h
    refine mx_sub (L' := [(0, vR (b + 1)), (1, vR l1), (8, vI (mj_b l8)), (12, vI l12)]) [0, 1, 3, 4] rfl ?_
    exact show mj_X g 972 [(0, vR (b + 1)), (1, vR l1), (8, vI (mj_b l8)), (12, vI l12)] [] M118 150 3485 from (xb_L_law_972 hC hE hA l1 l8 l12 M118 h)
set_option maxHeartbeats 4000000 in
set_option maxRecDepth 100000 in
theorem xb_L_law_952 {g : mj_G} {nm : String} {b Ln : Nat} {xs : Nat → Int32} (hC : mj_C g ⟨R_law, nm, ""⟩ code 19 ret room_1) (hE : mj_EL g) (hA : (mj_aa g).2.2.2 = (b, Ln, xs)) (l1 : Nat) (l4 : Int32) (l8 : Bool) (l12 : Int32) (M : mj_M) (h : vb_L_law_952 xs Ln l1 l4 l8 l12 M) : mj_X g 952 [(0, vR (b + 1)), (1, vR l1), (4, vI l4), (8, vI (mj_b l8)), (12, vI l12)] [] M 150 3485 := by
  simp only [vb_L_law_952] at h
  refine mx_aload_n (j := 1) hC dL_law_952 rfl rfl ?_
  refine mx_iconst (v := 3) hC dL_law_953 (by decide) ?_
  refine mx_iconst (v := 0) hC dL_law_954 (by decide) ?_
  obtain ⟨ht120, h⟩ := h
  refine mx_callV (inj := mj_jI) (As := [vI 3, vI 0]) (st := []) hC (ct_X11_about l1 3 0 M _ h) ty_X11_about tw415 ht120 rfl (Nat.le_of_ble_eq_true rfl) ⟨rfl, rfl, ⟨by decide, by decide⟩, by show _ ≤ 600000; omega, by show _ ≤ 7302250; omega⟩ dL_law_955 (fun r121 M122 h => ?_)
  show mj_X g 958 [(0, vR ((b + 1))), (1, vR l1), (4, vI l4), (8, vI (mj_b l8)), (12, vI l12)] [vI r121] M122 150 3485
  refine mx_ifne (tgt := 1005) hC dL_law_958 (by decide) (fun hc123 => ?_) (fun hc123 => ?_)
  · replace h := mj_nn hc123 h
    refine mx_iconst (v := 0) hC dL_law_1005 (by decide) ?_
    exact h.elim
  · replace h := mj_yy hc123 h
    refine mx_sub (L' := [(0, vR (b + 1)), (1, vR l1), (4, vI l4), (8, vI (mj_b l8)), (12, vI l12)]) [0, 1, 2, 3, 4] rfl ?_
    exact show mj_X g 961 [(0, vR (b + 1)), (1, vR l1), (4, vI l4), (8, vI (mj_b l8)), (12, vI l12)] [] M122 150 3485 from (xb_L_law_961 hC hE hA l1 l4 l8 l12 M122 h)
set_option maxHeartbeats 4000000 in
set_option maxRecDepth 100000 in
theorem xb_L_law_940 {g : mj_G} {nm : String} {b Ln : Nat} {xs : Nat → Int32} (hC : mj_C g ⟨R_law, nm, ""⟩ code 19 ret room_1) (hE : mj_EL g) (hA : (mj_aa g).2.2.2 = (b, Ln, xs)) (l1 : Nat) (l4 : Int32) (l8 : Bool) (l12 : Int32) (M : mj_M) (h : vb_L_law_940 xs Ln l1 l4 l8 l12 M) : mj_X g 940 [(0, vR (b + 1)), (1, vR l1), (4, vI l4), (8, vI (mj_b l8)), (12, vI l12)] [] M 150 3485 := by
  simp only [vb_L_law_940] at h
  refine mx_aload_n (j := 1) hC dL_law_940 rfl rfl ?_
  refine mx_iconst (v := 0) hC dL_law_941 (by decide) ?_
  refine mx_bipush (v := 7) hC dL_law_942 (by decide) ?_
  obtain ⟨ht124, h⟩ := h
  refine mx_callV (inj := mj_jI) (As := [vI 0, vI 7]) (st := []) hC (ct_X11_about l1 0 7 M _ h) ty_X11_about tw415 ht124 rfl (Nat.le_of_ble_eq_true rfl) ⟨rfl, rfl, ⟨by decide, by decide⟩, by show _ ≤ 600000; omega, by show _ ≤ 7302250; omega⟩ dL_law_944 (fun r125 M126 h => ?_)
  show mj_X g 947 [(0, vR ((b + 1))), (1, vR l1), (4, vI l4), (8, vI (mj_b l8)), (12, vI l12)] [vI r125] M126 150 3485
  refine mx_iload (j := 4) hC dL_law_947 rfl ?_
  refine mx_icmpne (tgt := 1005) hC dL_law_949 (by decide) (fun hc127 => ?_) (fun hc127 => ?_)
  · replace h := mj_nn hc127 h
    refine mx_iconst (v := 0) hC dL_law_1005 (by decide) ?_
    exact h.elim
  · replace h := mj_yy hc127 h
    refine mx_sub (L' := [(0, vR (b + 1)), (1, vR l1), (4, vI l4), (8, vI (mj_b l8)), (12, vI l12)]) [0, 1, 2, 3, 4] rfl ?_
    exact show mj_X g 952 [(0, vR (b + 1)), (1, vR l1), (4, vI l4), (8, vI (mj_b l8)), (12, vI l12)] [] M126 150 3485 from (xb_L_law_952 hC hE hA l1 l4 l8 l12 M126 h)
set_option maxHeartbeats 4000000 in
set_option maxRecDepth 100000 in
theorem xb_L_law_929 {g : mj_G} {nm : String} {b Ln : Nat} {xs : Nat → Int32} (hC : mj_C g ⟨R_law, nm, ""⟩ code 19 ret room_1) (hE : mj_EL g) (hA : (mj_aa g).2.2.2 = (b, Ln, xs)) (l1 : Nat) (l4 : Int32) (l8 : Bool) (l12 : Int32) (M : mj_M) (h : vb_L_law_929 xs Ln l1 l4 l8 l12 M) : mj_X g 929 [(0, vR (b + 1)), (1, vR l1), (4, vI l4), (8, vI (mj_b l8)), (12, vI l12)] [] M 150 3485 := by
  simp only [vb_L_law_929] at h
  refine mx_aload_n (j := 1) hC dL_law_929 rfl rfl ?_
  refine mx_iconst (v := 0) hC dL_law_930 (by decide) ?_
  refine mx_bipush (v := 6) hC dL_law_931 (by decide) ?_
  obtain ⟨ht128, h⟩ := h
  refine mx_callV (inj := mj_jI) (As := [vI 0, vI 6]) (st := []) hC (ct_X11_about l1 0 6 M _ h) ty_X11_about tw415 ht128 rfl (Nat.le_of_ble_eq_true rfl) ⟨rfl, rfl, ⟨by decide, by decide⟩, by show _ ≤ 600000; omega, by show _ ≤ 7302250; omega⟩ dL_law_933 (fun r129 M130 h => ?_)
  show mj_X g 936 [(0, vR ((b + 1))), (1, vR l1), (4, vI l4), (8, vI (mj_b l8)), (12, vI l12)] [vI r129] M130 150 3485
  refine mx_iconst (v := 2) hC dL_law_936 (by decide) ?_
  refine mx_icmpne (tgt := 1005) hC dL_law_937 (by decide) (fun hc131 => ?_) (fun hc131 => ?_)
  · replace h := mj_nn hc131 h
    refine mx_iconst (v := 0) hC dL_law_1005 (by decide) ?_
    exact h.elim
  · replace h := mj_yy hc131 h
    refine mx_sub (L' := [(0, vR (b + 1)), (1, vR l1), (4, vI l4), (8, vI (mj_b l8)), (12, vI l12)]) [0, 1, 2, 3, 4] rfl ?_
    exact show mj_X g 940 [(0, vR (b + 1)), (1, vR l1), (4, vI l4), (8, vI (mj_b l8)), (12, vI l12)] [] M130 150 3485 from (xb_L_law_940 hC hE hA l1 l4 l8 l12 M130 h)
set_option maxHeartbeats 4000000 in
set_option maxRecDepth 100000 in
theorem xb_L_law_919 {g : mj_G} {nm : String} {b Ln : Nat} {xs : Nat → Int32} (hC : mj_C g ⟨R_law, nm, ""⟩ code 19 ret room_1) (hE : mj_EL g) (hA : (mj_aa g).2.2.2 = (b, Ln, xs)) (l1 : Nat) (l4 : Int32) (l8 : Bool) (l12 : Int32) (M : mj_M) (h : vb_L_law_919 xs Ln l1 l4 l8 l12 M) : mj_X g 919 [(0, vR (b + 1)), (1, vR l1), (4, vI l4), (8, vI (mj_b l8)), (12, vI l12)] [] M 150 3485 := by
  simp only [vb_L_law_919] at h
  refine mx_aload_n (j := 1) hC dL_law_919 rfl rfl ?_
  refine mx_iconst (v := 2) hC dL_law_920 (by decide) ?_
  refine mx_iconst (v := 5) hC dL_law_921 (by decide) ?_
  obtain ⟨ht132, h⟩ := h
  refine mx_callV (inj := mj_jI) (As := [vI 2, vI 5]) (st := []) hC (ct_X11_about l1 2 5 M _ h) ty_X11_about tw415 ht132 rfl (Nat.le_of_ble_eq_true rfl) ⟨rfl, rfl, ⟨by decide, by decide⟩, by show _ ≤ 600000; omega, by show _ ≤ 7302250; omega⟩ dL_law_922 (fun r133 M134 h => ?_)
  show mj_X g 925 [(0, vR ((b + 1))), (1, vR l1), (4, vI l4), (8, vI (mj_b l8)), (12, vI l12)] [vI r133] M134 150 3485
  refine mx_iconst (v := 3) hC dL_law_925 (by decide) ?_
  refine mx_icmpne (tgt := 1005) hC dL_law_926 (by decide) (fun hc135 => ?_) (fun hc135 => ?_)
  · replace h := mj_nn hc135 h
    refine mx_iconst (v := 0) hC dL_law_1005 (by decide) ?_
    exact h.elim
  · replace h := mj_yy hc135 h
    refine mx_sub (L' := [(0, vR (b + 1)), (1, vR l1), (4, vI l4), (8, vI (mj_b l8)), (12, vI l12)]) [0, 1, 2, 3, 4] rfl ?_
    exact show mj_X g 929 [(0, vR (b + 1)), (1, vR l1), (4, vI l4), (8, vI (mj_b l8)), (12, vI l12)] [] M134 150 3485 from (xb_L_law_929 hC hE hA l1 l4 l8 l12 M134 h)
set_option maxHeartbeats 4000000 in
set_option maxRecDepth 100000 in
theorem xb_L_law_909 {g : mj_G} {nm : String} {b Ln : Nat} {xs : Nat → Int32} (hC : mj_C g ⟨R_law, nm, ""⟩ code 19 ret room_1) (hE : mj_EL g) (hA : (mj_aa g).2.2.2 = (b, Ln, xs)) (l1 : Nat) (l4 : Int32) (l8 : Bool) (l12 : Int32) (M : mj_M) (h : vb_L_law_909 xs Ln l1 l4 l8 l12 M) : mj_X g 909 [(0, vR (b + 1)), (1, vR l1), (4, vI l4), (8, vI (mj_b l8)), (12, vI l12)] [] M 150 3485 := by
  simp only [vb_L_law_909] at h
  refine mx_aload_n (j := 1) hC dL_law_909 rfl rfl ?_
  refine mx_iconst (v := 1) hC dL_law_910 (by decide) ?_
  refine mx_iconst (v := 5) hC dL_law_911 (by decide) ?_
  obtain ⟨ht136, h⟩ := h
  refine mx_callV (inj := mj_jI) (As := [vI 1, vI 5]) (st := []) hC (ct_X11_about l1 1 5 M _ h) ty_X11_about tw415 ht136 rfl (Nat.le_of_ble_eq_true rfl) ⟨rfl, rfl, ⟨by decide, by decide⟩, by show _ ≤ 600000; omega, by show _ ≤ 7302250; omega⟩ dL_law_912 (fun r137 M138 h => ?_)
  show mj_X g 915 [(0, vR ((b + 1))), (1, vR l1), (4, vI l4), (8, vI (mj_b l8)), (12, vI l12)] [vI r137] M138 150 3485
  refine mx_iconst (v := 5) hC dL_law_915 (by decide) ?_
  refine mx_icmpne (tgt := 1005) hC dL_law_916 (by decide) (fun hc139 => ?_) (fun hc139 => ?_)
  · replace h := mj_nn hc139 h
    refine mx_iconst (v := 0) hC dL_law_1005 (by decide) ?_
    exact h.elim
  · replace h := mj_yy hc139 h
    refine mx_sub (L' := [(0, vR (b + 1)), (1, vR l1), (4, vI l4), (8, vI (mj_b l8)), (12, vI l12)]) [0, 1, 2, 3, 4] rfl ?_
    exact show mj_X g 919 [(0, vR (b + 1)), (1, vR l1), (4, vI l4), (8, vI (mj_b l8)), (12, vI l12)] [] M138 150 3485 from (xb_L_law_919 hC hE hA l1 l4 l8 l12 M138 h)
set_option maxHeartbeats 4000000 in
set_option maxRecDepth 100000 in
theorem xb_L_law_900 {g : mj_G} {nm : String} {b Ln : Nat} {xs : Nat → Int32} (hC : mj_C g ⟨R_law, nm, ""⟩ code 19 ret room_1) (hE : mj_EL g) (hA : (mj_aa g).2.2.2 = (b, Ln, xs)) (l1 : Nat) (l4 : Int32) (l8 : Bool) (l12 : Int32) (M : mj_M) (h : vb_L_law_900 xs Ln l1 l4 l8 l12 M) : mj_X g 900 [(0, vR (b + 1)), (1, vR l1), (4, vI l4), (8, vI (mj_b l8)), (12, vI l12)] [] M 150 3485 := by
  simp only [vb_L_law_900] at h
  refine mx_aload_n (j := 1) hC dL_law_900 rfl rfl ?_
  refine mx_iconst (v := 0) hC dL_law_901 (by decide) ?_
  obtain ⟨ht140, h⟩ := h
  refine mx_callV (inj := mj_jI) (As := [vI 0]) (st := []) hC (ct_X11_carry l1 0 M _ h) ty_X11_carry tw796 ht140 rfl (Nat.le_of_ble_eq_true rfl) ⟨rfl, rfl, ⟨by decide, by decide⟩, by show _ ≤ 600000; omega, by show _ ≤ 7302250; omega⟩ dL_law_902 (fun r141 M142 h => ?_)
  show mj_X g 905 [(0, vR ((b + 1))), (1, vR l1), (4, vI l4), (8, vI (mj_b l8)), (12, vI l12)] [vI r141] M142 150 3485
  refine mx_iconst (v := 1) hC dL_law_905 (by decide) ?_
  refine mx_icmpne (tgt := 1005) hC dL_law_906 (by decide) (fun hc143 => ?_) (fun hc143 => ?_)
  · replace h := mj_nn hc143 h
    refine mx_iconst (v := 0) hC dL_law_1005 (by decide) ?_
    exact h.elim
  · replace h := mj_yy hc143 h
    refine mx_sub (L' := [(0, vR (b + 1)), (1, vR l1), (4, vI l4), (8, vI (mj_b l8)), (12, vI l12)]) [0, 1, 2, 3, 4] rfl ?_
    exact show mj_X g 909 [(0, vR (b + 1)), (1, vR l1), (4, vI l4), (8, vI (mj_b l8)), (12, vI l12)] [] M142 150 3485 from (xb_L_law_909 hC hE hA l1 l4 l8 l12 M142 h)
set_option maxHeartbeats 4000000 in
set_option maxRecDepth 100000 in
theorem xb_L_law_676 {g : mj_G} {nm : String} {b Ln : Nat} {xs : Nat → Int32} (hC : mj_C g ⟨R_law, nm, ""⟩ code 19 ret room_1) (hE : mj_EL g) (hA : (mj_aa g).2.2.2 = (b, Ln, xs)) (l1 : Nat) (l2 : Int32) (l3 : Int32) (l4 : Int32) (l8 : Bool) (l12 : Int32) (l13 : Int32) (M : mj_M) (h : vb_L_law_676 xs Ln l1 l2 l3 l4 l8 l12 l13 M) : mj_X g 676 [(0, vR (b + 1)), (1, vR l1), (2, vI l2), (3, vI l3), (4, vI l4), (8, vI (mj_b l8)), (12, vI l12), (13, vI l13)] [] M 150 3485 := by
  simp only [vb_L_law_676] at h
  refine mx_aload_n (j := 1) hC dL_law_676 rfl rfl ?_
  refine mx_iconst (v := 0) hC dL_law_677 (by decide) ?_
  refine mx_iconst (v := 1) hC dL_law_678 (by decide) ?_
  obtain ⟨ht144, h⟩ := h
  refine mx_callV (inj := mj_jI) (As := [vI 0, vI (mj_b true)]) (st := []) hC (ct_X11_answer l1 0 true M _ h) ty_X11_answer tw779 ht144 rfl (Nat.le_of_ble_eq_true rfl) ⟨rfl, rfl, ⟨by decide, by decide⟩, by show _ ≤ 600000; omega, by show _ ≤ 7302250; omega⟩ dL_law_679 (fun r145 M146 h => ?_)
  show mj_X g 682 [(0, vR ((b + 1))), (1, vR l1), (2, vI l2), (3, vI l3), (4, vI l4), (8, vI (mj_b l8)), (12, vI l12), (13, vI l13)] [vI r145] M146 150 3485
  refine mx_iconst (v := 1) hC dL_law_682 (by decide) ?_
  refine mx_icmpeq (tgt := 688) hC dL_law_683 (by decide) (fun hc147 => ?_) (fun hc147 => ?_)
  · replace h := mj_yy hc147 h
    refine mx_iload (j := 7) hC dL_law_688 rfl ?_
    refine mx_ifne (tgt := 900) hC dL_law_690 (by decide) (fun hc148 => ?_) (fun hc148 => ?_)
    · replace h := mj_nn hc148 h
      refine mx_sub (L' := [(0, vR (b + 1)), (1, vR l1), (4, vI l4), (8, vI (mj_b l8)), (12, vI l12)]) [0, 1, 4, 5, 6] rfl ?_
      exact show mj_X g 900 [(0, vR (b + 1)), (1, vR l1), (4, vI l4), (8, vI (mj_b l8)), (12, vI l12)] [] M146 150 3485 from (xb_L_law_900 hC hE hA l1 l4 l8 l12 M146 h)
    · replace h := mj_yy hc148 h
      refine mx_iload (j := 4) hC dL_law_693 rfl ?_
      refine mx_ldc (v := 32850) hC dL_law_695 tw952 ?_
      refine mx_iadd hC dL_law_697 ?_
      refine mx_ldc (v := 73000) hC dL_law_698 tw953 ?_
      refine mx_icmple (tgt := 708) hC dL_law_700 (by decide) (fun hc149 => ?_) (fun hc149 => ?_)
      · replace h := mj_yy hc149 h
        refine mx_iload (j := 4) hC dL_law_708 rfl ?_
        refine mx_ldc (v := 32850) hC dL_law_710 tw952 ?_
        refine mx_iadd hC dL_law_712 ?_
        refine mx_sub (L' := [(1, vR l1), (2, vI l2), (3, vI l3)]) [1, 2, 3] rfl ?_
        exact show mj_X g 713 [(1, vR l1), (2, vI l2), (3, vI l3)] [vI (l4 + 32850)] M146 150 3485 from (xb_L_law_713 hC hE hA l1 l2 l3 (l4 + 32850) M146 h)
      · replace h := mj_nn hc149 h
        refine mx_ldc (v := 73000) hC dL_law_703 tw953 ?_
        refine mx_goto (tgt := 713) hC dL_law_705 (by decide) ?_
        refine mx_sub (L' := [(1, vR l1), (2, vI l2), (3, vI l3)]) [1, 2, 3] rfl ?_
        exact show mj_X g 713 [(1, vR l1), (2, vI l2), (3, vI l3)] [vI 73000] M146 150 3485 from (xb_L_law_713 hC hE hA l1 l2 l3 73000 M146 h)
  · replace h := mj_nn hc147 h
    refine mx_iconst (v := 0) hC dL_law_686 (by decide) ?_
    exact h.elim
set_option maxHeartbeats 4000000 in
set_option maxRecDepth 100000 in
theorem xb_L_law_666 {g : mj_G} {nm : String} {b Ln : Nat} {xs : Nat → Int32} (hC : mj_C g ⟨R_law, nm, ""⟩ code 19 ret room_1) (hE : mj_EL g) (hA : (mj_aa g).2.2.2 = (b, Ln, xs)) (l1 : Nat) (l2 : Int32) (l3 : Int32) (l4 : Int32) (l8 : Bool) (l12 : Int32) (l13 : Int32) (M : mj_M) (h : vb_L_law_666 xs Ln l1 l2 l3 l4 l8 l12 l13 M) : mj_X g 666 [(0, vR (b + 1)), (1, vR l1), (2, vI l2), (3, vI l3), (4, vI l4), (8, vI (mj_b l8)), (12, vI l12), (13, vI l13)] [] M 150 3485 := by
  simp only [vb_L_law_666] at h
  refine mx_aload_n (j := 1) hC dL_law_666 rfl rfl ?_
  refine mx_iconst (v := 0) hC dL_law_667 (by decide) ?_
  obtain ⟨ht150, h⟩ := h
  refine mx_callV (inj := mj_jI) (As := [vI 0]) (st := []) hC (ct_X11_carry l1 0 M _ h) ty_X11_carry tw796 ht150 rfl (Nat.le_of_ble_eq_true rfl) ⟨rfl, rfl, ⟨by decide, by decide⟩, by show _ ≤ 600000; omega, by show _ ≤ 7302250; omega⟩ dL_law_668 (fun r151 M152 h => ?_)
  show mj_X g 671 [(0, vR ((b + 1))), (1, vR l1), (2, vI l2), (3, vI l3), (4, vI l4), (8, vI (mj_b l8)), (12, vI l12), (13, vI l13)] [vI r151] M152 150 3485
  refine mx_bipush (v := (-3)) hC dL_law_671 (by decide) ?_
  refine mx_icmpne (tgt := 686) hC dL_law_673 (by decide) (fun hc153 => ?_) (fun hc153 => ?_)
  · replace h := mj_nn hc153 h
    refine mx_iconst (v := 0) hC dL_law_686 (by decide) ?_
    exact h.elim
  · replace h := mj_yy hc153 h
    refine mx_sub (L' := [(0, vR (b + 1)), (1, vR l1), (2, vI l2), (3, vI l3), (4, vI l4), (8, vI (mj_b l8)), (12, vI l12), (13, vI l13)]) [0, 1, 2, 3, 4, 5, 6, 7] rfl ?_
    exact show mj_X g 676 [(0, vR (b + 1)), (1, vR l1), (2, vI l2), (3, vI l3), (4, vI l4), (8, vI (mj_b l8)), (12, vI l12), (13, vI l13)] [] M152 150 3485 from (xb_L_law_676 hC hE hA l1 l2 l3 l4 l8 l12 l13 M152 h)
set_option maxHeartbeats 4000000 in
set_option maxRecDepth 100000 in
theorem xb_L_law_653 {g : mj_G} {nm : String} {b Ln : Nat} {xs : Nat → Int32} (hC : mj_C g ⟨R_law, nm, ""⟩ code 19 ret room_1) (hE : mj_EL g) (hA : (mj_aa g).2.2.2 = (b, Ln, xs)) (l1 : Nat) (l2 : Int32) (l3 : Int32) (l4 : Int32) (l8 : Bool) (l12 : Int32) (l13 : Int32) (s0 : Int32) (M : mj_M) (h : vb_L_law_653 xs Ln l1 l2 l3 l4 l8 l12 l13 s0 M) : mj_X g 653 [(0, vR (b + 1)), (1, vR l1), (2, vI l2), (3, vI l3), (4, vI l4), (8, vI (mj_b l8)), (12, vI l12), (13, vI l13)] [vI s0] M 149 3478 := by
  simp only [vb_L_law_653] at h
  refine mx_istore (L' := [(14, vI s0), (0, vR ((b + 1))), (1, vR l1), (2, vI l2), (3, vI l3), (4, vI l4), (8, vI (mj_b l8)), (12, vI l12), (13, vI l13)]) hC dL_law_653 (by decide) rfl ?_
  refine mx_aload_n (j := 2) hC dL_law_655 rfl rfl ?_
  refine mx_iload (j := 0) hC dL_law_656 rfl ?_
  refine mx_iload (j := 8) hC dL_law_658 rfl ?_
  obtain ⟨ht154, h⟩ := h
  refine mx_callV (inj := mj_jI) (As := [vI s0, vI l13]) (st := []) hC (ct_X11_notice l1 s0 l13 M _ h) ty_X11_notice tw724 ht154 rfl (Nat.le_of_ble_eq_true rfl) ⟨rfl, rfl, ⟨by decide, by decide⟩, by show _ ≤ 600000; omega, by show _ ≤ 7302250; omega⟩ dL_law_660 (fun r155 M156 h => ?_)
  show mj_X g 663 [(14, vI s0), (0, vR ((b + 1))), (1, vR l1), (2, vI l2), (3, vI l3), (4, vI l4), (8, vI (mj_b l8)), (12, vI l12), (13, vI l13)] [vI r155] M156 150 3485
  refine mx_ifne (tgt := 686) hC dL_law_663 (by decide) (fun hc157 => ?_) (fun hc157 => ?_)
  · replace h := mj_nn hc157 h
    refine mx_iconst (v := 0) hC dL_law_686 (by decide) ?_
    exact h.elim
  · replace h := mj_yy hc157 h
    refine mx_sub (L' := [(0, vR (b + 1)), (1, vR l1), (2, vI l2), (3, vI l3), (4, vI l4), (8, vI (mj_b l8)), (12, vI l12), (13, vI l13)]) [1, 2, 3, 4, 5, 6, 7, 8] rfl ?_
    exact show mj_X g 666 [(0, vR (b + 1)), (1, vR l1), (2, vI l2), (3, vI l3), (4, vI l4), (8, vI (mj_b l8)), (12, vI l12), (13, vI l13)] [] M156 150 3485 from (xb_L_law_666 hC hE hA l1 l2 l3 l4 l8 l12 l13 M156 h)

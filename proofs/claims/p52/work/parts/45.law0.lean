set_option maxHeartbeats 4000000 in
set_option maxRecDepth 100000 in
theorem xb_L_law_616 {g : mj_G} {nm : String} {b Ln : Nat} {xs : Nat → Int32} (hC : mj_C g ⟨R_law, nm, ""⟩ code 19 ret room_1) (hE : mj_EL g) (hA : (mj_aa g).2.2.2 = (b, Ln, xs)) (l1 : Nat) (M : mj_M) (h : vb_L_law_616 xs Ln l1 M) : mj_X g 616 [(1, vR l1)] [] M 149 3478 := by
  simp only [vb_L_law_616] at h
  refine mx_aload_n (j := 0) hC dL_law_616 rfl rfl ?_
  refine mx_iconst (v := 2) hC dL_law_617 (by decide) ?_
  refine mx_iconst (v := 0) hC dL_law_618 (by decide) ?_
  obtain ⟨ht1, h⟩ := h
  refine mx_callV (inj := mj_jI) (As := [vI 2, vI 0]) (st := []) hC (ct_X11_notice l1 2 0 M _ h) ty_X11_notice tw724 ht1 rfl (Nat.le_of_ble_eq_true rfl) ⟨rfl, rfl, ⟨by decide, by decide⟩, by show _ ≤ 600000; omega, by show _ ≤ 7302250; omega⟩ dL_law_619 (fun r2 M3 h => ?_)
  show mj_X g 622 [(1, vR l1)] [vI r2] M3 150 3485
  refine mx_bipush (v := (-3)) hC dL_law_622 (by decide) ?_
  refine mx_icmpne (tgt := 631) hC dL_law_624 (by decide) (fun hc4 => ?_) (fun hc4 => ?_)
  · replace h := mj_nn hc4 h
    refine mx_iconst (v := 0) hC dL_law_631 (by decide) ?_
    exact h.elim
  · replace h := mj_yy hc4 h
    refine mx_iconst (v := 1) hC dL_law_627 (by decide) ?_
    refine mx_goto (tgt := 632) hC dL_law_628 (by decide) ?_
    exact mx_lwret hC hE dL_law_632 (by omega) (by omega)
set_option maxHeartbeats 4000000 in
set_option maxRecDepth 100000 in
theorem xb_L_law_606 {g : mj_G} {nm : String} {b Ln : Nat} {xs : Nat → Int32} (hC : mj_C g ⟨R_law, nm, ""⟩ code 19 ret room_1) (hE : mj_EL g) (hA : (mj_aa g).2.2.2 = (b, Ln, xs)) (l1 : Nat) (M : mj_M) (h : vb_L_law_606 xs Ln l1 M) : mj_X g 606 [(1, vR l1)] [] M 149 3478 := by
  simp only [vb_L_law_606] at h
  refine mx_aload_n (j := 0) hC dL_law_606 rfl rfl ?_
  refine mx_iconst (v := 2) hC dL_law_607 (by decide) ?_
  obtain ⟨ht5, h⟩ := h
  refine mx_callV (inj := mj_jI) (As := [vI 2]) (st := []) hC (ct_X11_stay l1 2 M _ h) ty_X11_stay tw843 ht5 rfl (Nat.le_of_ble_eq_true rfl) ⟨rfl, rfl, ⟨by decide, by decide⟩, by show _ ≤ 600000; omega, by show _ ≤ 7302250; omega⟩ dL_law_608 (fun r6 M7 h => ?_)
  show mj_X g 611 [(1, vR l1)] [vI r6] M7 149 3478
  refine mx_bipush (v := (-3)) hC dL_law_611 (by decide) ?_
  refine mx_icmpne (tgt := 631) hC dL_law_613 (by decide) (fun hc8 => ?_) (fun hc8 => ?_)
  · replace h := mj_nn hc8 h
    refine mx_iconst (v := 0) hC dL_law_631 (by decide) ?_
    exact h.elim
  · replace h := mj_yy hc8 h
    refine mx_sub (L' := [(1, vR l1)]) [0] rfl ?_
    exact show mj_X g 616 [(1, vR l1)] [] M7 149 3478 from (xb_L_law_616 hC hE hA l1 M7 h)
set_option maxHeartbeats 4000000 in
set_option maxRecDepth 100000 in
theorem xb_L_law_886 {g : mj_G} {nm : String} {b Ln : Nat} {xs : Nat → Int32} (hC : mj_C g ⟨R_law, nm, ""⟩ code 19 ret room_1) (hE : mj_EL g) (hA : (mj_aa g).2.2.2 = (b, Ln, xs)) (l1 : Nat) (M : mj_M) (h : vb_L_law_886 xs Ln l1 M) : mj_X g 886 [(1, vR l1)] [] M 151 3492 := by
  simp only [vb_L_law_886] at h
  refine mx_aload_n (j := 0) hC dL_law_886 rfl rfl ?_
  refine mx_iconst (v := 3) hC dL_law_887 (by decide) ?_
  obtain ⟨ht9, h⟩ := h
  refine mx_callV (inj := mj_jI) (As := [vI 3]) (st := []) hC (ct_X11_stay l1 3 M _ h) ty_X11_stay tw843 ht9 rfl (Nat.le_of_ble_eq_true rfl) ⟨rfl, rfl, ⟨by decide, by decide⟩, by show _ ≤ 600000; omega, by show _ ≤ 7302250; omega⟩ dL_law_888 (fun r10 M11 h => ?_)
  show mj_X g 891 [(1, vR l1)] [vI r10] M11 151 3492
  refine mx_ifne (tgt := 898) hC dL_law_891 (by decide) (fun hc12 => ?_) (fun hc12 => ?_)
  · replace h := mj_nn hc12 h
    refine mx_iconst (v := 0) hC dL_law_898 (by decide) ?_
    exact h.elim
  · replace h := mj_yy hc12 h
    refine mx_iconst (v := 1) hC dL_law_894 (by decide) ?_
    refine mx_goto (tgt := 899) hC dL_law_895 (by decide) ?_
    exact mx_lwret hC hE dL_law_899 (by omega) (by omega)
set_option maxHeartbeats 4000000 in
set_option maxRecDepth 100000 in
theorem xb_L_law_871 {g : mj_G} {nm : String} {b Ln : Nat} {xs : Nat → Int32} (hC : mj_C g ⟨R_law, nm, ""⟩ code 19 ret room_1) (hE : mj_EL g) (hA : (mj_aa g).2.2.2 = (b, Ln, xs)) (l1 : Nat) (M : mj_M) (h : vb_L_law_871 xs Ln l1 M) : mj_X g 871 [(1, vR l1)] [] M 151 3492 := by
  simp only [vb_L_law_871] at h
  refine mx_aload_n (j := 0) hC dL_law_871 rfl rfl ?_
  refine mx_iconst (v := 3) hC dL_law_872 (by decide) ?_
  refine mx_iconst (v := 3) hC dL_law_873 (by decide) ?_
  obtain ⟨ht13, h⟩ := h
  refine mx_callV (inj := mj_jI) (As := [vI 3, vI 3]) (st := []) hC (ct_X11_about l1 3 3 M _ h) ty_X11_about tw415 ht13 rfl (Nat.le_of_ble_eq_true rfl) ⟨rfl, rfl, ⟨by decide, by decide⟩, by show _ ≤ 600000; omega, by show _ ≤ 7302250; omega⟩ dL_law_874 (fun r14 M15 h => ?_)
  show mj_X g 877 [(1, vR l1)] [vI r14] M15 151 3492
  refine mx_aload_n (j := 0) hC dL_law_877 rfl rfl ?_
  refine mx_iconst (v := 2) hC dL_law_878 (by decide) ?_
  refine mx_iconst (v := 4) hC dL_law_879 (by decide) ?_
  obtain ⟨ht16, h⟩ := h
  refine mx_callV (inj := mj_jI) (As := [vI 2, vI 4]) (st := [vI r14]) hC (ct_X11_about l1 2 4 M15 _ h) ty_X11_about tw415 ht16 rfl (Nat.le_of_ble_eq_true rfl) ⟨rfl, rfl, ⟨by decide, by decide⟩, by show _ ≤ 600000; omega, by show _ ≤ 7302250; omega⟩ dL_law_880 (fun r17 M18 h => ?_)
  show mj_X g 883 [(1, vR l1)] [vI r17, vI r14] M18 151 3492
  refine mx_icmpne (tgt := 898) hC dL_law_883 (by decide) (fun hc19 => ?_) (fun hc19 => ?_)
  · replace h := mj_nn hc19 h
    refine mx_iconst (v := 0) hC dL_law_898 (by decide) ?_
    exact h.elim
  · replace h := mj_yy hc19 h
    refine mx_sub (L' := [(1, vR l1)]) [0] rfl ?_
    exact show mj_X g 886 [(1, vR l1)] [] M18 151 3492 from (xb_L_law_886 hC hE hA l1 M18 h)
set_option maxHeartbeats 4000000 in
set_option maxRecDepth 100000 in
theorem xb_L_law_842 {g : mj_G} {nm : String} {b Ln : Nat} {xs : Nat → Int32} (hC : mj_C g ⟨R_law, nm, ""⟩ code 19 ret room_1) (hE : mj_EL g) (hA : (mj_aa g).2.2.2 = (b, Ln, xs)) (l1 : Nat) (M : mj_M) (h : vb_L_law_842 xs Ln l1 M) : mj_X g 842 [(1, vR l1)] [] M 151 3492 := by
  simp only [vb_L_law_842] at h
  refine mx_aload_n (j := 0) hC dL_law_842 rfl rfl ?_
  refine mx_iconst (v := 3) hC dL_law_843 (by decide) ?_
  refine mx_iconst (v := 3) hC dL_law_844 (by decide) ?_
  obtain ⟨ht20, h⟩ := h
  refine mx_callV (inj := mj_jI) (As := [vI 3, vI 3]) (st := []) hC (ct_X11_about l1 3 3 M _ h) ty_X11_about tw415 ht20 rfl (Nat.le_of_ble_eq_true rfl) ⟨rfl, rfl, ⟨by decide, by decide⟩, by show _ ≤ 600000; omega, by show _ ≤ 7302250; omega⟩ dL_law_845 (fun r21 M22 h => ?_)
  show mj_X g 848 [(1, vR l1)] [vI r21] M22 151 3492
  refine mx_istore (L' := [(16, vI r21), (1, vR l1)]) hC dL_law_848 (by decide) rfl ?_
  refine mx_aload_n (j := 1) hC dL_law_850 rfl rfl ?_
  refine mx_iconst (v := 3) hC dL_law_851 (by decide) ?_
  obtain ⟨ht23, h⟩ := h
  refine mx_callV (inj := mj_jI) (As := [vI 3]) (st := []) hC (ct_X11_stay l1 3 M22 _ h) ty_X11_stay tw843 ht23 rfl (Nat.le_of_ble_eq_true rfl) ⟨rfl, rfl, ⟨by decide, by decide⟩, by show _ ≤ 600000; omega, by show _ ≤ 7302250; omega⟩ dL_law_852 (fun r24 M25 h => ?_)
  show mj_X g 855 [(16, vI r21), (1, vR l1)] [vI r24] M25 151 3492
  refine mx_istore (L' := [(17, vI r24), (16, vI r21), (1, vR l1)]) hC dL_law_855 (by decide) rfl ?_
  refine mx_iload (j := 0) hC dL_law_857 rfl ?_
  refine mx_aload_n (j := 2) hC dL_law_859 rfl rfl ?_
  refine mx_iconst (v := 2) hC dL_law_860 (by decide) ?_
  refine mx_iconst (v := 4) hC dL_law_861 (by decide) ?_
  obtain ⟨ht26, h⟩ := h
  refine mx_callV (inj := mj_jI) (As := [vI 2, vI 4]) (st := [vI r24]) hC (ct_X11_about l1 2 4 M25 _ h) ty_X11_about tw415 ht26 rfl (Nat.le_of_ble_eq_true rfl) ⟨rfl, rfl, ⟨by decide, by decide⟩, by show _ ≤ 600000; omega, by show _ ≤ 7302250; omega⟩ dL_law_862 (fun r27 M28 h => ?_)
  show mj_X g 865 [(17, vI r24), (16, vI r21), (1, vR l1)] [vI r27, vI r24] M28 151 3492
  refine mx_iload (j := 1) hC dL_law_865 rfl ?_
  refine mx_isub hC dL_law_867 ?_
  refine mx_icmpne (tgt := 898) hC dL_law_868 (by decide) (fun hc29 => ?_) (fun hc29 => ?_)
  · replace h := mj_nn hc29 h
    refine mx_iconst (v := 0) hC dL_law_898 (by decide) ?_
    exact h.elim
  · replace h := mj_yy hc29 h
    refine mx_sub (L' := [(1, vR l1)]) [2] rfl ?_
    exact show mj_X g 871 [(1, vR l1)] [] M28 151 3492 from (xb_L_law_871 hC hE hA l1 M28 h)
set_option maxHeartbeats 4000000 in
set_option maxRecDepth 100000 in
theorem xb_L_law_830 {g : mj_G} {nm : String} {b Ln : Nat} {xs : Nat → Int32} (hC : mj_C g ⟨R_law, nm, ""⟩ code 19 ret room_1) (hE : mj_EL g) (hA : (mj_aa g).2.2.2 = (b, Ln, xs)) (l1 : Nat) (M : mj_M) (h : vb_L_law_830 xs Ln l1 M) : mj_X g 830 [(1, vR l1)] [] M 150 3485 := by
  simp only [vb_L_law_830] at h
  refine mx_aload_n (j := 0) hC dL_law_830 rfl rfl ?_
  refine mx_iconst (v := 3) hC dL_law_831 (by decide) ?_
  refine mx_iconst (v := 0) hC dL_law_832 (by decide) ?_
  obtain ⟨ht30, h⟩ := h
  refine mx_callV (inj := mj_jI) (As := [vI 3, vI 0]) (st := []) hC (ct_X11_notice l1 3 0 M _ h) ty_X11_notice tw724 ht30 rfl (Nat.le_of_ble_eq_true rfl) ⟨rfl, rfl, ⟨by decide, by decide⟩, by show _ ≤ 600000; omega, by show _ ≤ 7302250; omega⟩ dL_law_833 (fun r31 M32 h => ?_)
  show mj_X g 836 [(1, vR l1)] [vI r31] M32 151 3492
  refine mx_iconst (v := 1) hC dL_law_836 (by decide) ?_
  refine mx_icmpeq (tgt := 842) hC dL_law_837 (by decide) (fun hc33 => ?_) (fun hc33 => ?_)
  · replace h := mj_yy hc33 h
    refine mx_sub (L' := [(1, vR l1)]) [0] rfl ?_
    exact show mj_X g 842 [(1, vR l1)] [] M32 151 3492 from (xb_L_law_842 hC hE hA l1 M32 h)
  · replace h := mj_nn hc33 h
    refine mx_iconst (v := 0) hC dL_law_840 (by decide) ?_
    exact h.elim
set_option maxHeartbeats 4000000 in
set_option maxRecDepth 100000 in
theorem xb_L_law_820 {g : mj_G} {nm : String} {b Ln : Nat} {xs : Nat → Int32} (hC : mj_C g ⟨R_law, nm, ""⟩ code 19 ret room_1) (hE : mj_EL g) (hA : (mj_aa g).2.2.2 = (b, Ln, xs)) (l1 : Nat) (M : mj_M) (h : vb_L_law_820 xs Ln l1 M) : mj_X g 820 [(1, vR l1)] [] M 150 3485 := by
  simp only [vb_L_law_820] at h
  refine mx_aload_n (j := 0) hC dL_law_820 rfl rfl ?_
  refine mx_iconst (v := 0) hC dL_law_821 (by decide) ?_
  obtain ⟨ht34, h⟩ := h
  refine mx_callV (inj := mj_jI) (As := [vI 0]) (st := []) hC (ct_X11_carry l1 0 M _ h) ty_X11_carry tw796 ht34 rfl (Nat.le_of_ble_eq_true rfl) ⟨rfl, rfl, ⟨by decide, by decide⟩, by show _ ≤ 600000; omega, by show _ ≤ 7302250; omega⟩ dL_law_822 (fun r35 M36 h => ?_)
  show mj_X g 825 [(1, vR l1)] [vI r35] M36 150 3485
  refine mx_bipush (v := (-3)) hC dL_law_825 (by decide) ?_
  refine mx_icmpne (tgt := 840) hC dL_law_827 (by decide) (fun hc37 => ?_) (fun hc37 => ?_)
  · replace h := mj_nn hc37 h
    refine mx_iconst (v := 0) hC dL_law_840 (by decide) ?_
    exact h.elim
  · replace h := mj_yy hc37 h
    refine mx_sub (L' := [(1, vR l1)]) [0] rfl ?_
    exact show mj_X g 830 [(1, vR l1)] [] M36 150 3485 from (xb_L_law_830 hC hE hA l1 M36 h)
set_option maxHeartbeats 4000000 in
set_option maxRecDepth 100000 in
theorem xb_L_law_811 {g : mj_G} {nm : String} {b Ln : Nat} {xs : Nat → Int32} (hC : mj_C g ⟨R_law, nm, ""⟩ code 19 ret room_1) (hE : mj_EL g) (hA : (mj_aa g).2.2.2 = (b, Ln, xs)) (l1 : Nat) (M : mj_M) (h : vb_L_law_811 xs Ln l1 M) : mj_X g 811 [(1, vR l1)] [] M 150 3485 := by
  simp only [vb_L_law_811] at h
  refine mx_aload_n (j := 0) hC dL_law_811 rfl rfl ?_
  refine mx_iconst (v := 0) hC dL_law_812 (by decide) ?_
  obtain ⟨ht38, h⟩ := h
  refine mx_callV (inj := mj_jI) (As := [vI 0]) (st := []) hC (ct_X11_status l1 0 M _ h) ty_X11_status tw792 ht38 rfl (Nat.le_of_ble_eq_true rfl) ⟨rfl, rfl, ⟨by decide, by decide⟩, by show _ ≤ 600000; omega, by show _ ≤ 7302250; omega⟩ dL_law_813 (fun r39 M40 h => ?_)
  show mj_X g 816 [(1, vR l1)] [vI r39] M40 150 3485
  refine mx_iconst (v := 4) hC dL_law_816 (by decide) ?_
  refine mx_icmpne (tgt := 840) hC dL_law_817 (by decide) (fun hc41 => ?_) (fun hc41 => ?_)
  · replace h := mj_nn hc41 h
    refine mx_iconst (v := 0) hC dL_law_840 (by decide) ?_
    exact h.elim
  · replace h := mj_yy hc41 h
    refine mx_sub (L' := [(1, vR l1)]) [0] rfl ?_
    exact show mj_X g 820 [(1, vR l1)] [] M40 150 3485 from (xb_L_law_820 hC hE hA l1 M40 h)
set_option maxHeartbeats 4000000 in
set_option maxRecDepth 100000 in
theorem xb_L_law_798 {g : mj_G} {nm : String} {b Ln : Nat} {xs : Nat → Int32} (hC : mj_C g ⟨R_law, nm, ""⟩ code 19 ret room_1) (hE : mj_EL g) (hA : (mj_aa g).2.2.2 = (b, Ln, xs)) (l1 : Nat) (M : mj_M) (h : vb_L_law_798 xs Ln l1 M) : mj_X g 798 [(1, vR l1)] [] M 150 3485 := by
  simp only [vb_L_law_798] at h
  refine mx_aload_n (j := 0) hC dL_law_798 rfl rfl ?_
  refine mx_iconst (v := 2) hC dL_law_799 (by decide) ?_
  refine mx_bipush (v := 8) hC dL_law_800 (by decide) ?_
  obtain ⟨ht42, h⟩ := h
  refine mx_callV (inj := mj_jI) (As := [vI 2, vI 8]) (st := []) hC (ct_X11_about l1 2 8 M _ h) ty_X11_about tw415 ht42 rfl (Nat.le_of_ble_eq_true rfl) ⟨rfl, rfl, ⟨by decide, by decide⟩, by show _ ≤ 600000; omega, by show _ ≤ 7302250; omega⟩ dL_law_802 (fun r43 M44 h => ?_)
  show mj_X g 805 [(1, vR l1)] [vI r43] M44 150 3485
  refine mx_sipush (v := 500) hC dL_law_805 (by decide) ?_
  refine mx_icmpne (tgt := 840) hC dL_law_808 (by decide) (fun hc45 => ?_) (fun hc45 => ?_)
  · replace h := mj_nn hc45 h
    refine mx_iconst (v := 0) hC dL_law_840 (by decide) ?_
    exact h.elim
  · replace h := mj_yy hc45 h
    refine mx_sub (L' := [(1, vR l1)]) [0] rfl ?_
    exact show mj_X g 811 [(1, vR l1)] [] M44 150 3485 from (xb_L_law_811 hC hE hA l1 M44 h)
set_option maxHeartbeats 4000000 in
set_option maxRecDepth 100000 in
theorem xb_L_law_788 {g : mj_G} {nm : String} {b Ln : Nat} {xs : Nat → Int32} (hC : mj_C g ⟨R_law, nm, ""⟩ code 19 ret room_1) (hE : mj_EL g) (hA : (mj_aa g).2.2.2 = (b, Ln, xs)) (l1 : Nat) (M : mj_M) (h : vb_L_law_788 xs Ln l1 M) : mj_X g 788 [(1, vR l1)] [] M 150 3485 := by
  simp only [vb_L_law_788] at h
  refine mx_aload_n (j := 0) hC dL_law_788 rfl rfl ?_
  refine mx_iconst (v := 3) hC dL_law_789 (by decide) ?_
  refine mx_bipush (v := 8) hC dL_law_790 (by decide) ?_
  obtain ⟨ht46, h⟩ := h
  refine mx_callV (inj := mj_jI) (As := [vI 3, vI 8]) (st := []) hC (ct_X11_about l1 3 8 M _ h) ty_X11_about tw415 ht46 rfl (Nat.le_of_ble_eq_true rfl) ⟨rfl, rfl, ⟨by decide, by decide⟩, by show _ ≤ 600000; omega, by show _ ≤ 7302250; omega⟩ dL_law_792 (fun r47 M48 h => ?_)
  show mj_X g 795 [(1, vR l1)] [vI r47] M48 150 3485
  refine mx_ifne (tgt := 840) hC dL_law_795 (by decide) (fun hc49 => ?_) (fun hc49 => ?_)
  · replace h := mj_nn hc49 h
    refine mx_iconst (v := 0) hC dL_law_840 (by decide) ?_
    exact h.elim
  · replace h := mj_yy hc49 h
    refine mx_sub (L' := [(1, vR l1)]) [0] rfl ?_
    exact show mj_X g 798 [(1, vR l1)] [] M48 150 3485 from (xb_L_law_798 hC hE hA l1 M48 h)
set_option maxHeartbeats 4000000 in
set_option maxRecDepth 100000 in
theorem xb_L_law_777 {g : mj_G} {nm : String} {b Ln : Nat} {xs : Nat → Int32} (hC : mj_C g ⟨R_law, nm, ""⟩ code 19 ret room_1) (hE : mj_EL g) (hA : (mj_aa g).2.2.2 = (b, Ln, xs)) (l1 : Nat) (M : mj_M) (h : vb_L_law_777 xs Ln l1 M) : mj_X g 777 [(1, vR l1)] [] M 150 3485 := by
  simp only [vb_L_law_777] at h
  refine mx_aload_n (j := 0) hC dL_law_777 rfl rfl ?_
  refine mx_iconst (v := 0) hC dL_law_778 (by decide) ?_
  refine mx_iconst (v := 3) hC dL_law_779 (by decide) ?_
  obtain ⟨ht50, h⟩ := h
  refine mx_callV (inj := mj_jI) (As := [vI 0, vI 3]) (st := []) hC (ct_X11_about l1 0 3 M _ h) ty_X11_about tw415 ht50 rfl (Nat.le_of_ble_eq_true rfl) ⟨rfl, rfl, ⟨by decide, by decide⟩, by show _ ≤ 600000; omega, by show _ ≤ 7302250; omega⟩ dL_law_780 (fun r51 M52 h => ?_)
  show mj_X g 783 [(1, vR l1)] [vI r51] M52 150 3485
  refine mx_ldc (v := 73000) hC dL_law_783 tw953 ?_
  refine mx_icmpne (tgt := 840) hC dL_law_785 (by decide) (fun hc53 => ?_) (fun hc53 => ?_)
  · replace h := mj_nn hc53 h
    refine mx_iconst (v := 0) hC dL_law_840 (by decide) ?_
    exact h.elim
  · replace h := mj_yy hc53 h
    refine mx_sub (L' := [(1, vR l1)]) [0] rfl ?_
    exact show mj_X g 788 [(1, vR l1)] [] M52 150 3485 from (xb_L_law_788 hC hE hA l1 M52 h)
set_option maxHeartbeats 4000000 in
set_option maxRecDepth 100000 in
theorem xb_L_law_774 {g : mj_G} {nm : String} {b Ln : Nat} {xs : Nat → Int32} (hC : mj_C g ⟨R_law, nm, ""⟩ code 19 ret room_1) (hE : mj_EL g) (hA : (mj_aa g).2.2.2 = (b, Ln, xs)) (l1 : Nat) (s0 : Int32) (s1 : Int32) (M : mj_M) (h : vb_L_law_774 xs Ln l1 s0 s1 M) : mj_X g 774 [(1, vR l1)] [vI s1, vI s0] M 150 3485 := by
  simp only [vb_L_law_774] at h
  refine mx_icmpne (tgt := 840) hC dL_law_774 (by decide) (fun hc54 => ?_) (fun hc54 => ?_)
  · replace h := mj_nn hc54 h
    refine mx_iconst (v := 0) hC dL_law_840 (by decide) ?_
    exact h.elim
  · replace h := mj_yy hc54 h
    refine mx_sub (L' := [(1, vR l1)]) [0] rfl ?_
    exact show mj_X g 777 [(1, vR l1)] [] M 150 3485 from (xb_L_law_777 hC hE hA l1 M h)
set_option maxHeartbeats 4000000 in
set_option maxRecDepth 100000 in
theorem xb_L_law_756 {g : mj_G} {nm : String} {b Ln : Nat} {xs : Nat → Int32} (hC : mj_C g ⟨R_law, nm, ""⟩ code 19 ret room_1) (hE : mj_EL g) (hA : (mj_aa g).2.2.2 = (b, Ln, xs)) (l1 : Nat) (l2 : Int32) (l15 : Int32) (M : mj_M) (h : vb_L_law_756 xs Ln l1 l2 l15 M) : mj_X g 756 [(1, vR l1), (2, vI l2), (15, vI l15)] [] M 150 3485 := by
  simp only [vb_L_law_756] at h
  refine mx_aload_n (j := 0) hC dL_law_756 rfl rfl ?_
  refine mx_iconst (v := 1) hC dL_law_757 (by decide) ?_
  refine mx_iconst (v := 3) hC dL_law_758 (by decide) ?_
  obtain ⟨ht55, h⟩ := h
  refine mx_callV (inj := mj_jI) (As := [vI 1, vI 3]) (st := []) hC (ct_X11_about l1 1 3 M _ h) ty_X11_about tw415 ht55 rfl (Nat.le_of_ble_eq_true rfl) ⟨rfl, rfl, ⟨by decide, by decide⟩, by show _ ≤ 600000; omega, by show _ ≤ 7302250; omega⟩ dL_law_759 (fun r56 M57 h => ?_)
  show mj_X g 762 [(1, vR l1), (2, vI l2), (15, vI l15)] [vI r56] M57 150 3485
  refine mx_iload_n (j := 1) hC dL_law_762 rfl rfl ?_
  refine mx_iload (j := 2) hC dL_law_763 rfl ?_
  refine mx_icmple (tgt := 772) hC dL_law_765 (by decide) (fun hc58 => ?_) (fun hc58 => ?_)
  · replace h := mj_yy hc58 h
    refine mx_iload (j := 2) hC dL_law_772 rfl ?_
    refine mx_sub (L' := [(1, vR l1)]) [0] rfl ?_
    exact show mj_X g 774 [(1, vR l1)] [vI l15, vI r56] M57 150 3485 from (xb_L_law_774 hC hE hA l1 r56 l15 M57 h)
  · replace h := mj_nn hc58 h
    refine mx_iload_n (j := 1) hC dL_law_768 rfl rfl ?_
    refine mx_goto (tgt := 774) hC dL_law_769 (by decide) ?_
    refine mx_sub (L' := [(1, vR l1)]) [0] rfl ?_
    exact show mj_X g 774 [(1, vR l1)] [vI l2, vI r56] M57 150 3485 from (xb_L_law_774 hC hE hA l1 r56 l2 M57 h)
set_option maxHeartbeats 4000000 in
set_option maxRecDepth 100000 in
theorem xb_L_law_753 {g : mj_G} {nm : String} {b Ln : Nat} {xs : Nat → Int32} (hC : mj_C g ⟨R_law, nm, ""⟩ code 19 ret room_1) (hE : mj_EL g) (hA : (mj_aa g).2.2.2 = (b, Ln, xs)) (l1 : Nat) (l2 : Int32) (l15 : Int32) (s0 : Int32) (s1 : Int32) (M : mj_M) (h : vb_L_law_753 xs Ln l1 l2 l15 s0 s1 M) : mj_X g 753 [(1, vR l1), (2, vI l2), (15, vI l15)] [vI s1, vI s0] M 150 3485 := by
  simp only [vb_L_law_753] at h
  refine mx_icmpne (tgt := 840) hC dL_law_753 (by decide) (fun hc59 => ?_) (fun hc59 => ?_)
  · replace h := mj_nn hc59 h
    refine mx_iconst (v := 0) hC dL_law_840 (by decide) ?_
    exact h.elim
  · replace h := mj_yy hc59 h
    refine mx_sub (L' := [(1, vR l1), (2, vI l2), (15, vI l15)]) [0, 1, 2] rfl ?_
    exact show mj_X g 756 [(1, vR l1), (2, vI l2), (15, vI l15)] [] M 150 3485 from (xb_L_law_756 hC hE hA l1 l2 l15 M h)
set_option maxHeartbeats 4000000 in
set_option maxRecDepth 100000 in
theorem xb_L_law_735 {g : mj_G} {nm : String} {b Ln : Nat} {xs : Nat → Int32} (hC : mj_C g ⟨R_law, nm, ""⟩ code 19 ret room_1) (hE : mj_EL g) (hA : (mj_aa g).2.2.2 = (b, Ln, xs)) (l1 : Nat) (l2 : Int32) (l3 : Int32) (l15 : Int32) (M : mj_M) (h : vb_L_law_735 xs Ln l1 l2 l3 l15 M) : mj_X g 735 [(1, vR l1), (2, vI l2), (3, vI l3), (15, vI l15)] [] M 150 3485 := by
  simp only [vb_L_law_735] at h
  refine mx_aload_n (j := 0) hC dL_law_735 rfl rfl ?_
  refine mx_iconst (v := 2) hC dL_law_736 (by decide) ?_
  refine mx_iconst (v := 3) hC dL_law_737 (by decide) ?_
  obtain ⟨ht60, h⟩ := h
  refine mx_callV (inj := mj_jI) (As := [vI 2, vI 3]) (st := []) hC (ct_X11_about l1 2 3 M _ h) ty_X11_about tw415 ht60 rfl (Nat.le_of_ble_eq_true rfl) ⟨rfl, rfl, ⟨by decide, by decide⟩, by show _ ≤ 600000; omega, by show _ ≤ 7302250; omega⟩ dL_law_738 (fun r61 M62 h => ?_)
  show mj_X g 741 [(1, vR l1), (2, vI l2), (3, vI l3), (15, vI l15)] [vI r61] M62 150 3485
  refine mx_iload_n (j := 2) hC dL_law_741 rfl rfl ?_
  refine mx_iload (j := 3) hC dL_law_742 rfl ?_
  refine mx_icmple (tgt := 751) hC dL_law_744 (by decide) (fun hc63 => ?_) (fun hc63 => ?_)
  · replace h := mj_yy hc63 h
    refine mx_iload (j := 3) hC dL_law_751 rfl ?_
    refine mx_sub (L' := [(1, vR l1), (2, vI l2), (15, vI l15)]) [0, 1, 3] rfl ?_
    exact show mj_X g 753 [(1, vR l1), (2, vI l2), (15, vI l15)] [vI l15, vI r61] M62 150 3485 from (xb_L_law_753 hC hE hA l1 l2 l15 r61 l15 M62 h)
  · replace h := mj_nn hc63 h
    refine mx_iload_n (j := 2) hC dL_law_747 rfl rfl ?_
    refine mx_goto (tgt := 753) hC dL_law_748 (by decide) ?_
    refine mx_sub (L' := [(1, vR l1), (2, vI l2), (15, vI l15)]) [0, 1, 3] rfl ?_
    exact show mj_X g 753 [(1, vR l1), (2, vI l2), (15, vI l15)] [vI l3, vI r61] M62 150 3485 from (xb_L_law_753 hC hE hA l1 l2 l15 r61 l3 M62 h)
set_option maxHeartbeats 4000000 in
set_option maxRecDepth 100000 in
theorem xb_L_law_724 {g : mj_G} {nm : String} {b Ln : Nat} {xs : Nat → Int32} (hC : mj_C g ⟨R_law, nm, ""⟩ code 19 ret room_1) (hE : mj_EL g) (hA : (mj_aa g).2.2.2 = (b, Ln, xs)) (l1 : Nat) (l2 : Int32) (l3 : Int32) (l15 : Int32) (M : mj_M) (h : vb_L_law_724 xs Ln l1 l2 l3 l15 M) : mj_X g 724 [(1, vR l1), (2, vI l2), (3, vI l3), (15, vI l15)] [] M 150 3485 := by
  simp only [vb_L_law_724] at h
  refine mx_aload_n (j := 0) hC dL_law_724 rfl rfl ?_
  refine mx_iconst (v := 3) hC dL_law_725 (by decide) ?_
  refine mx_iconst (v := 3) hC dL_law_726 (by decide) ?_
  obtain ⟨ht64, h⟩ := h
  refine mx_callV (inj := mj_jI) (As := [vI 3, vI 3]) (st := []) hC (ct_X11_about l1 3 3 M _ h) ty_X11_about tw415 ht64 rfl (Nat.le_of_ble_eq_true rfl) ⟨rfl, rfl, ⟨by decide, by decide⟩, by show _ ≤ 600000; omega, by show _ ≤ 7302250; omega⟩ dL_law_727 (fun r65 M66 h => ?_)
  show mj_X g 730 [(1, vR l1), (2, vI l2), (3, vI l3), (15, vI l15)] [vI r65] M66 150 3485
  refine mx_iload (j := 3) hC dL_law_730 rfl ?_
  refine mx_icmpne (tgt := 840) hC dL_law_732 (by decide) (fun hc67 => ?_) (fun hc67 => ?_)
  · replace h := mj_nn hc67 h
    refine mx_iconst (v := 0) hC dL_law_840 (by decide) ?_
    exact h.elim
  · replace h := mj_yy hc67 h
    refine mx_sub (L' := [(1, vR l1), (2, vI l2), (3, vI l3), (15, vI l15)]) [0, 1, 2, 3] rfl ?_
    exact show mj_X g 735 [(1, vR l1), (2, vI l2), (3, vI l3), (15, vI l15)] [] M66 150 3485 from (xb_L_law_735 hC hE hA l1 l2 l3 l15 M66 h)
set_option maxHeartbeats 4000000 in
set_option maxRecDepth 100000 in
theorem xb_L_law_713 {g : mj_G} {nm : String} {b Ln : Nat} {xs : Nat → Int32} (hC : mj_C g ⟨R_law, nm, ""⟩ code 19 ret room_1) (hE : mj_EL g) (hA : (mj_aa g).2.2.2 = (b, Ln, xs)) (l1 : Nat) (l2 : Int32) (l3 : Int32) (s0 : Int32) (M : mj_M) (h : vb_L_law_713 xs Ln l1 l2 l3 s0 M) : mj_X g 713 [(1, vR l1), (2, vI l2), (3, vI l3)] [vI s0] M 150 3485 := by
  simp only [vb_L_law_713] at h
  refine mx_istore (L' := [(15, vI s0), (1, vR l1), (2, vI l2), (3, vI l3)]) hC dL_law_713 (by decide) rfl ?_
  refine mx_aload_n (j := 1) hC dL_law_715 rfl rfl ?_
  refine mx_iconst (v := 0) hC dL_law_716 (by decide) ?_
  obtain ⟨ht68, h⟩ := h
  refine mx_callV (inj := mj_jI) (As := [vI 0]) (st := []) hC (ct_X11_carry l1 0 M _ h) ty_X11_carry tw796 ht68 rfl (Nat.le_of_ble_eq_true rfl) ⟨rfl, rfl, ⟨by decide, by decide⟩, by show _ ≤ 600000; omega, by show _ ≤ 7302250; omega⟩ dL_law_717 (fun r69 M70 h => ?_)
  show mj_X g 720 [(15, vI s0), (1, vR l1), (2, vI l2), (3, vI l3)] [vI r69] M70 150 3485
  refine mx_iconst (v := 1) hC dL_law_720 (by decide) ?_
  refine mx_icmpne (tgt := 840) hC dL_law_721 (by decide) (fun hc71 => ?_) (fun hc71 => ?_)
  · replace h := mj_nn hc71 h
    refine mx_iconst (v := 0) hC dL_law_840 (by decide) ?_
    exact h.elim
  · replace h := mj_yy hc71 h
    refine mx_sub (L' := [(1, vR l1), (2, vI l2), (3, vI l3), (15, vI s0)]) [1, 2, 3, 0] rfl ?_
    exact show mj_X g 724 [(1, vR l1), (2, vI l2), (3, vI l3), (15, vI s0)] [] M70 150 3485 from (xb_L_law_724 hC hE hA l1 l2 l3 s0 M70 h)
set_option maxHeartbeats 4000000 in
set_option maxRecDepth 100000 in
theorem xb_L_law_1127 {g : mj_G} {nm : String} {b Ln : Nat} {xs : Nat → Int32} (hC : mj_C g ⟨R_law, nm, ""⟩ code 19 ret room_1) (hE : mj_EL g) (hA : (mj_aa g).2.2.2 = (b, Ln, xs)) {k1040 : Nat → Int32 → Int32 → mj_M → Prop} (hk1040 : ∀ (l1 : Nat) (l12 : Int32) (l15 : Int32) (M : mj_M), k1040 l1 l12 l15 M → mj_X g 1040 [(0, vR (b + 1)), (1, vR l1), (12, vI l12), (15, vI l15)] [] M 151 3500) (l1 : Nat) (l12 : Int32) (l15 : Int32) (l18 : Int32) (M : mj_M) (h : vb_L_law_1127 xs Ln k1040 l1 l12 l15 l18 M) : mj_X g 1127 [(0, vR (b + 1)), (1, vR l1), (12, vI l12), (15, vI l15), (18, vI l18)] [] M 151 3500 := by
  simp only [vb_L_law_1127] at h
  refine mx_aload_n (j := 1) hC dL_law_1127 rfl rfl ?_
  refine mx_iconst (v := 0) hC dL_law_1128 (by decide) ?_
  refine mx_iload (j := 3) hC dL_law_1129 rfl ?_
  obtain ⟨ht72, h⟩ := h
  refine mx_callV (inj := mj_jI) (As := [vI 0, vI l15]) (st := []) hC (ct_X11_more l1 0 l15 M _ h) ty_X11_more tw920 ht72 rfl (Nat.le_of_ble_eq_true rfl) ⟨rfl, rfl, ⟨by decide, by decide⟩, by show _ ≤ 600000; omega, by show _ ≤ 7302250; omega⟩ dL_law_1131 (fun r73 M74 h => ?_)
  show mj_X g 1134 [(0, vR ((b + 1))), (1, vR l1), (12, vI l12), (15, vI l15), (18, vI l18)] [vI r73] M74 151 3500
  refine mx_iload (j := 4) hC dL_law_1134 rfl ?_
  refine mx_icmpeq (tgt := 1141) hC dL_law_1136 (by decide) (fun hc75 => ?_) (fun hc75 => ?_)
  · replace h := mj_yy hc75 h
    refine mx_iload (j := 3) hC dL_law_1141 rfl ?_
    refine mx_iconst (v := 1) hC dL_law_1143 (by decide) ?_
    refine mx_aload_n (j := 0) hC dL_law_1144 rfl rfl ?_
    refine mx_bipush (v := 8) hC dL_law_1145 (by decide) ?_
    refine mx_bipush (v := 9) hC dL_law_1147 (by decide) ?_
    refine mx_callS (inj := mj_jI) (As := [vR (b + 1), vI 8, vI 9]) (st := [vI 1, vI l15]) hC (ct_L_cell hA 8 9 M74 _ h) ty_L_cell tw948 rfl (Nat.le_of_ble_eq_true rfl) ⟨rfl, rfl, ⟨by decide, by decide⟩, by show _ ≤ 600000; omega, by show _ ≤ 7302250; omega⟩ dL_law_1149 (fun r76 M77 h => ?_)
    show mj_X g 1152 [(0, vR ((b + 1))), (1, vR l1), (12, vI l12), (15, vI l15), (18, vI l18)] [vI r76, vI 1, vI l15] M77 151 3500
    refine mx_iadd hC dL_law_1152 ?_
    refine mx_iadd hC dL_law_1153 ?_
    refine mx_istore (L' := [(15, vI (l15 + (1 + r76))), (0, vR ((b + 1))), (1, vR l1), (12, vI l12), (18, vI l18)]) hC dL_law_1154 (by decide) rfl ?_
    refine mx_goto (tgt := 1040) hC dL_law_1156 (by decide) ?_
    refine mx_sub (L' := [(0, vR (b + 1)), (1, vR l1), (12, vI l12), (15, vI (l15 + (1 + r76)))]) [1, 2, 3, 0] rfl ?_
    exact show mj_X g 1040 [(0, vR (b + 1)), (1, vR l1), (12, vI l12), (15, vI (l15 + (1 + r76)))] [] M77 151 3500 from (hk1040 l1 l12 (l15 + (1 + r76)) M77 h)
  · replace h := mj_nn hc75 h
    refine mx_iconst (v := 0) hC dL_law_1139 (by decide) ?_
    exact h.elim
set_option maxHeartbeats 4000000 in
set_option maxRecDepth 100000 in
theorem xb_L_law_1124 {g : mj_G} {nm : String} {b Ln : Nat} {xs : Nat → Int32} (hC : mj_C g ⟨R_law, nm, ""⟩ code 19 ret room_1) (hE : mj_EL g) (hA : (mj_aa g).2.2.2 = (b, Ln, xs)) {k1040 : Nat → Int32 → Int32 → mj_M → Prop} (hk1040 : ∀ (l1 : Nat) (l12 : Int32) (l15 : Int32) (M : mj_M), k1040 l1 l12 l15 M → mj_X g 1040 [(0, vR (b + 1)), (1, vR l1), (12, vI l12), (15, vI l15)] [] M 151 3500) (l1 : Nat) (l12 : Int32) (l15 : Int32) (l18 : Int32) (s0 : Int32) (s1 : Bool) (M : mj_M) (h : vb_L_law_1124 xs Ln k1040 l1 l12 l15 l18 s0 s1 M) : mj_X g 1124 [(0, vR (b + 1)), (1, vR l1), (12, vI l12), (15, vI l15), (18, vI l18)] [vI (mj_b s1), vI s0] M 151 3500 := by
  simp only [vb_L_law_1124] at h
  refine mx_icmpne (tgt := 1139) hC dL_law_1124 (by decide) (fun hc78 => ?_) (fun hc78 => ?_)
  · replace h := mj_nn hc78 h
    refine mx_iconst (v := 0) hC dL_law_1139 (by decide) ?_
    exact h.elim
  · replace h := mj_yy hc78 h
    refine mx_sub (L' := [(0, vR (b + 1)), (1, vR l1), (12, vI l12), (15, vI l15), (18, vI l18)]) [0, 1, 2, 3, 4] rfl ?_
    exact show mj_X g 1127 [(0, vR (b + 1)), (1, vR l1), (12, vI l12), (15, vI l15), (18, vI l18)] [] M 151 3500 from (xb_L_law_1127 hC hE hA hk1040 l1 l12 l15 l18 M h)
set_option maxHeartbeats 4000000 in
set_option maxRecDepth 100000 in
theorem xb_L_law_1105 {g : mj_G} {nm : String} {b Ln : Nat} {xs : Nat → Int32} (hC : mj_C g ⟨R_law, nm, ""⟩ code 19 ret room_1) (hE : mj_EL g) (hA : (mj_aa g).2.2.2 = (b, Ln, xs)) {k1040 : Nat → Int32 → Int32 → mj_M → Prop} (hk1040 : ∀ (l1 : Nat) (l12 : Int32) (l15 : Int32) (M : mj_M), k1040 l1 l12 l15 M → mj_X g 1040 [(0, vR (b + 1)), (1, vR l1), (12, vI l12), (15, vI l15)] [] M 151 3500) (l1 : Nat) (l12 : Int32) (l15 : Int32) (l17 : Bool) (s0 : Int32) (M : mj_M) (h : vb_L_law_1105 xs Ln k1040 l1 l12 l15 l17 s0 M) : mj_X g 1105 [(0, vR (b + 1)), (1, vR l1), (12, vI l12), (15, vI l15), (17, vI (mj_b l17))] [vI s0] M 151 3500 := by
  simp only [vb_L_law_1105] at h
  refine mx_istore (L' := [(18, vI s0), (0, vR ((b + 1))), (1, vR l1), (12, vI l12), (15, vI l15), (17, vI (mj_b l17))]) hC dL_law_1105 (by decide) rfl ?_
  refine mx_aload_n (j := 2) hC dL_law_1107 rfl rfl ?_
  refine mx_iconst (v := 0) hC dL_law_1108 (by decide) ?_
  refine mx_iload (j := 4) hC dL_law_1109 rfl ?_
  obtain ⟨ht79, h⟩ := h
  refine mx_callV (inj := mj_jI) (As := [vI 0, vI l15]) (st := []) hC (ct_X11_may l1 0 l15 M _ h) ty_X11_may tw893 ht79 rfl (Nat.le_of_ble_eq_true rfl) ⟨rfl, rfl, ⟨by decide, by decide⟩, by show _ ≤ 600000; omega, by show _ ≤ 7302250; omega⟩ dL_law_1111 (fun r80 M81 h => ?_)
  show mj_X g 1114 [(18, vI s0), (0, vR ((b + 1))), (1, vR l1), (12, vI l12), (15, vI l15), (17, vI (mj_b l17))] [vI r80] M81 151 3500
  refine mx_iload (j := 5) hC dL_law_1114 rfl ?_
  refine mx_ifeqB (tgt := 1123) hC dL_law_1116 (by decide) (fun hc82 => ?_) (fun hc82 => ?_)
  · replace h := mj_nn hc82 h
    refine mx_iconst (v := 0) hC dL_law_1123 (by decide) ?_
    refine mx_sub (L' := [(0, vR (b + 1)), (1, vR l1), (12, vI l12), (15, vI l15), (18, vI s0)]) [1, 2, 3, 4, 0] rfl ?_
    exact show mj_X g 1124 [(0, vR (b + 1)), (1, vR l1), (12, vI l12), (15, vI l15), (18, vI s0)] [vI (mj_b false), vI r80] M81 151 3500 from (xb_L_law_1124 hC hE hA hk1040 l1 l12 l15 s0 r80 false M81 h)
  · replace h := mj_yy hc82 h
    refine mx_iconst (v := 1) hC dL_law_1119 (by decide) ?_
    refine mx_goto (tgt := 1124) hC dL_law_1120 (by decide) ?_
    refine mx_sub (L' := [(0, vR (b + 1)), (1, vR l1), (12, vI l12), (15, vI l15), (18, vI s0)]) [1, 2, 3, 4, 0] rfl ?_
    exact show mj_X g 1124 [(0, vR (b + 1)), (1, vR l1), (12, vI l12), (15, vI l15), (18, vI s0)] [vI (mj_b true), vI r80] M81 151 3500 from (xb_L_law_1124 hC hE hA hk1040 l1 l12 l15 s0 r80 true M81 h)

/-! two contracts by hand: Arrays.copyOf(int[], int), and isFact (a String constant's indexOf) -/
def mj_copy (M : mj_M) (a n : Nat) : mj_M := (mj_u1 (mj_tag M) (mj_nx M) 101, mj_u1 (mj_len M) (mj_nx M) n, mj_u1 (mj_i M) (mj_nx M) (mj_i M a), mj_r M, mj_u1 (mj_l M) (mj_nx M) (fun _ => 0), mj_nx M + 1)
section MJCP
variable {p : Program} {l : Launch} {e : Env} {R : Room} {s : State} {m : MethodId} {args : Array Value} {below : List Frame} {meth : Method} {c : Code} {H : Heap} {lc : List Loc} {k n : Nat} {Q : State → Prop}
theorem mj_cloneW {cc : ByteArray} {pc : Nat} {ls : Array Slot} {rest : List Value} (hexec : p.tables.exec = Jvm.exec) (hb : c.code = cc) (hml : c.maxLocals = ls.size) {own : String} {index a n0 : Nat} {cA : ClassId} {f : Nat → Int32} (hown : s.vm.findClass own = some m.cls)
    (hlink : (Cond.methodLink own index ⟨"[I", "clone", "()Ljava/lang/Object;"⟩).before args s = true) (hsame : (Cond.sameMethod "[I" "java/lang/Object" "clone" "()Ljava/lang/Object;").before args s = true)
    (hnat : (Cond.native ⟨"java/lang/Object", "clone", "()Ljava/lang/Object;"⟩).before args s = true) (hinst : (Cond.instanceMethod ⟨"java/lang/Object", "clone", "()Ljava/lang/Object;"⟩).before args s = true)
    (hsel : (Cond.selects "[I" ⟨"[I", "clone", "()Ljava/lang/Object;"⟩ ⟨"java/lang/Object", "clone", "()Ljava/lang/Object;"⟩).before args s = true) (hcl : va_Nw (.castable "[I" "java/lang/Cloneable") s)
    (hA : ArrOfT s cA .int) (hnm : s.vm.findClass "[I" = some cA) (hc : H[a]? = some (vp_cell cA (n0, .inl f)))
    (hframes : 1 ≤ R.frames) (hlocals : (rest.map fun v => v.category).sum + 14 ≤ R.locals) (hcells : k + 1 ≤ R.cells) (hslots : n + n0 ≤ R.slots) (hdg : decode cc pc = .ok (.invokevirtual index, 3))
    (kk : W p l e R s m args below meth c (H.push (vp_cell cA (n0, .inl f))) lc (k + 1) (n + n0) Q (F0 m (pc + 3) ls (.ref H.size :: rest))) : W p l e R s m args below meth c H lc k n Q (F0 m pc ls (.ref a :: rest)) := by
  obtain ⟨c0, t0', f1, f2, f3⟩ := Cond.castable_spec (va_Nw.use (A := args) rfl hcl)
  cases hnm.symm.trans f1
  intro T hT X
  have hcellT : T.heap[a]? = some (vp_cell cA (n0, .inl f)) := by rw [hT]; exact hc
  obtain ⟨-, kA, hkA, comp, hkind⟩ := State.isArrayOf_alike X.warmed.alike (hA 0 (fun _ => .null))
  obtain ⟨-, kS, hkS, compS, hkindS⟩ := hA 0 (fun _ => .null)
  obtain ⟨vm', X', stp⟩ := X.cloneArray hexec hown hlink hsame hnat hinst hsel (a := a) (cell := vp_cell cA (n0, .inl f)) hcellT (fun k h => by cases h) (fun h => by cases h) hnm f2 f3
    (fun i v hv => by
      have hk' : T.vm.classes[cA]? = some kA := hkA
      have hf : fits .int v = true := by
        have hv' : (arrV cA n0 (fun j => .int (f j))).slots[i]? = some v := hv
        have hi : i < n0 := by
          have := (Array.getElem?_eq_some_iff.mp hv').1
          rwa [arrV_size] at this
        rw [arrV_read _ _ hi] at hv'
        cases hv'
        rfl
      show State.fitsSlot _ cA _ _ _ = true
      simpa [State.fitsSlot, State.slotType?, hk', hkind] using hf)
    (g := F0 m pc ls (.ref a :: rest)) rfl (by rw [hml]) rfl (by rw [hb]; exact hdg) hframes (by show 2 * 0 + _ + 14 ≤ _; omega) hcells (by rw [vp_cell_i, arrV_size]; exact hslots) (hloader := Vm.clonesLoader_of_array hkS hkindS)
  have hsz : (vp_cell cA (n0, .inl f)).slots.size = n0 := arrV_size _ _ _
  rw [hsz] at X'
  obtain ⟨t, b1, b2⟩ := kk ((T.setVm vm').pushCell (vp_cell cA (n0, .inl f))) (by rw [← hT]; rfl) X'
  refine ⟨t, stp t ?_, b2⟩
  rw [hT]
  exact b1
theorem mj_copyW {cc : ByteArray} {pc : Nat} {ls : Array Slot} {rest : List Value} (hexec : p.tables.exec = Jvm.exec) (hb : c.code = cc) (hml : c.maxLocals = ls.size) {own : String} {index a a0 n0 n1 : Nat} {c1 : ClassId} {f g : Nat → Int32} (hown : s.vm.findClass own = some m.cls) (hlink : (Cond.methodLink own index arraycopyName).before args s = true) (hnat : (Cond.native arraycopyName).before args s = true) (hstat : (Cond.static arraycopyName).before args s = true) (hini : (Cond.initialized "java/lang/System").before args s = true)
    (hA : ArrOfT s c1 .int) (hc0 : H[a0]? = some (vp_cell c1 (n0, .inl f))) (hc1 : H[a]? = some (vp_cell c1 (n1, .inl g)))
    {sp dp z : Int32} (h1 : ¬ sp < 0) (h2 : ¬ dp < 0) (h3 : ¬ z < 0) (h4 : sp.toNatClampNeg + z.toNatClampNeg ≤ n0) (h5 : dp.toNatClampNeg + z.toNatClampNeg ≤ n1)
    (hframes : 1 ≤ R.frames) (hlocals : (rest.map fun v => v.category).sum + (nativeFrameWords "java/lang/System" "arraycopy" 5 + 11) ≤ R.locals) (hdg : decode cc pc = .ok (.invokestatic index, 3))
    (kk : ∀ (H1 : Heap) (L1 : List Loc), H1[a]? = some (vp_cell c1 (n1, .inl (va_cpy f g sp.toNatClampNeg dp.toNatClampNeg z.toNatClampNeg))) → H1.size = H.size → (∀ q, q ≠ a → H1[q]? = H[q]?) → (∀ q ∈ L1, q.base = a) → W p l e R s m args below meth c H1 (lc ++ L1) k n Q (F0 m (pc + 3) ls rest)) : W p l e R s m args below meth c H lc k n Q (F0 m pc ls (.int z :: .int dp :: .ref a :: .int sp :: .ref a0 :: rest)) := by
  have nn : ∀ z : Int32, ¬ z < 0 → z.toInt = (z.toNatClampNeg : Int) := by
    intro z hz
    have hz0 : (0 : Int) ≤ z.toInt := by
      have := Int32.not_lt.mp hz
      simpa using Int32.le_iff_toInt_le.mp this
    show z.toInt = ((z.toInt.toNat : Nat) : Int)
    omega
  intro T hT X
  obtain ⟨-, k0, hk0, cm0, hkk0⟩ := hA n0 (fun j => .int (f j))
  obtain ⟨-, k1, hk1, cm1, hkk1⟩ := hA n1 (fun j => .int (g j))
  obtain ⟨vm', X', step⟩ := X.arraycopy hexec hown hlink hnat hstat hini (src := a0) (dst := a) (cs := vp_cell c1 (n0, .inl f)) (cd := vp_cell c1 (n1, .inl g)) (srcPos := sp) (destPos := dp) (n := z) (by rw [hT]; exact hc0) (by rw [hT]; exact hc1)
    (fun _ h => by cases h) (fun _ h => by cases h) (fun h => by cases h) (fun h => by cases h) hk0 hk1 hkk0 hkk1 (by decide) h1 h2 h3
    (by rw [nn sp h1, nn z h3]; show ¬ _ > ((arrV c1 n0 (fun j => .int (f j))).slots.size : Int); rw [arrV_size]; omega)
    (by rw [nn dp h2, nn z h3]; show ¬ _ > ((arrV c1 n1 (fun j => .int (g j))).slots.size : Int); rw [arrV_size]; omega)
    (fun vm₁ _ i hi => by
      have e : (vp_cell c1 (n0, .inl f)).slots.getD (sp.toNatClampNeg + i) .null = .int (f (sp.toNatClampNeg + i)) := by
        show (arrV c1 n0 (fun j => .int (f j))).slots.getD _ _ = _
        rw [Array.getD_eq_getD_getElem?, arrV_read _ _ (by omega)]
        rfl
      refine ⟨?_, ?_⟩
      · rw [e]
        rfl
      · rw [e]
        exact trivial)
    (g := F0 m pc ls (.int z :: .int dp :: .ref a :: .int sp :: .ref a0 :: rest)) rfl (by rw [hml]) (rest := rest) rfl (by rw [hb]; exact hdg) hframes (by show 2 * 0 + _ + _ ≤ _; omega)
  have e1 : copied (vp_cell c1 (n0, .inl f)) (vp_cell c1 (n1, .inl g)) sp dp z = vp_cell c1 (n1, .inl (va_cpy f g sp.toNatClampNeg dp.toNatClampNeg z.toNatClampNeg)) := va_copied (fun z => .int z) c1 c1 f g h4
  rw [e1] at X' step
  have hl : a < H.size := (Array.getElem?_eq_some_iff.mp hc1).1
  have hheap : ((T.setVm vm').setCell a (vp_cell c1 (n1, .inl (va_cpy f g sp.toNatClampNeg dp.toNatClampNeg z.toNatClampNeg)))).heap = H.setIfInBounds a (vp_cell c1 (n1, .inl (va_cpy f g sp.toNatClampNeg dp.toNatClampNeg z.toNatClampNeg))) := by rw [← hT]; rfl
  obtain ⟨t, a1, b1⟩ := kk _ _ (show (H.setIfInBounds a _)[a]? = some _ by simp [Array.getElem?_setIfInBounds, hl]) (by simp) (fun q hq => by simp [Array.getElem?_setIfInBounds, Ne.symm hq]) (fun q hq => by
      obtain ⟨z, -, hz⟩ := List.mem_map.mp hq
      rw [← hz]) _ hheap X'
  exact ⟨t, step t a1, b1⟩
end MJCP
theorem twh725 : (Jvm.Cond.methodLink "java/util/Arrays" (316 : Nat) ({ cls := "[I", name := "clone", desc := "()Ljava/lang/Object;" } : Jvm.MethodName)) ∈ mj_tbl := mj_w 614 (by decide +kernel) (by decide +kernel)
theorem twh726 : (Jvm.Cond.sameMethod "[I" "java/lang/Object" "clone" "()Ljava/lang/Object;") ∈ mj_tbl := mj_w 615 (by decide +kernel) (by decide +kernel)
theorem twh727 : (Jvm.Cond.native ({ cls := "java/lang/Object", name := "clone", desc := "()Ljava/lang/Object;" } : Jvm.MethodName)) ∈ mj_tbl := mj_w 616 (by decide +kernel) (by decide +kernel)
theorem twh728 : (Jvm.Cond.instanceMethod ({ cls := "java/lang/Object", name := "clone", desc := "()Ljava/lang/Object;" } : Jvm.MethodName)) ∈ mj_tbl := mj_w 617 (by decide +kernel) (by decide +kernel)
theorem twh729 : (Jvm.Cond.selects "[I" ({ cls := "[I", name := "clone", desc := "()Ljava/lang/Object;" } : Jvm.MethodName) ({ cls := "java/lang/Object", name := "clone", desc := "()Ljava/lang/Object;" } : Jvm.MethodName)) ∈ mj_tbl := mj_w 618 (by decide +kernel) (by decide +kernel)
theorem twh731 : (Jvm.Cond.classLink "java/util/Arrays" (317 : Nat) "[I") ∈ mj_tbl := mj_w 620 (by decide +kernel) (by decide +kernel)
theorem twh733 : (Jvm.Cond.methodLink "java/util/Arrays" (150 : Nat) arraycopyName) ∈ mj_tbl := mj_w 622 (by decide +kernel) (by decide +kernel)
theorem twh734 : (Jvm.Cond.static arraycopyName) ∈ mj_tbl := mj_w 623 (by decide +kernel) (by decide +kernel)
theorem twh735 : (Jvm.Cond.native arraycopyName) ∈ mj_tbl := mj_w 624 (by decide +kernel) (by decide +kernel)
theorem tw_sys : Cond.initialized "java/lang/System" ∈ mj_tbl := mj_w 25 (by decide +kernel) (by decide +kernel)
theorem mj_copyR {base : Nat} {D : va_G} {A : mj_AT} {M : mj_M} {H H1 : Heap} {a N : Nat} (hR : mj_R base D A M H) (z1 : H1.size = H.size + 1) (o1 : ∀ q, q < H.size → H1[q]? = H[q]?) (c6 : H1[H.size]? = some (vp_cell A.1 (N, .inl (mj_i M a)))) : mj_R base D A (mj_copy M a N) H1 := by
  obtain ⟨h1, h2, h3, h4, h5, h6, h7, h8⟩ := hR
  have hold : ∀ b t', mj_tag (mj_copy M a N) b = t' → b ≠ mj_nx M → mj_tag M b = t' := fun b t' hb hbn => by rw [← hb]; exact (mj_u1_ne (mj_tag M) hbn).symm
  have hnew : ∀ b, b = mj_nx M → mj_tag (mj_copy M a N) b = 101 := fun b hb => by rw [hb]; exact mj_u1_at (mj_tag M)
  have hfv : ∀ b, b ≠ mj_nx M → mj_i (mj_copy M a N) b = mj_i M b ∧ mj_r (mj_copy M a N) b = mj_r M b ∧ mj_l (mj_copy M a N) b = mj_l M b := fun b hb => ⟨mj_u1_ne _ hb, rfl, mj_u1_ne _ hb⟩
  have hln : ∀ b, b ≠ mj_nx M → mj_len (mj_copy M a N) b = mj_len M b := fun b hb => mj_u1_ne _ hb
  have hcell : ∀ b, mj_tag M b ≠ 0 → H1[b - 1]? = H[b - 1]? := fun b hb => o1 _ (by have := h4 b hb; omega)
  have hz : mj_len (mj_copy M a N) (mj_nx M) = N ∧ mj_i (mj_copy M a N) (mj_nx M) = mj_i M a := ⟨mj_u1_at _, mj_u1_at _⟩
  refine ⟨by rw [z1, h1]; rfl, h2, Nat.lt_trans h3 (Nat.lt_succ_self _), fun b hb => ?_, fun b ci' q hb hq => ?_, fun b hb => ?_, fun b hb => ?_, fun b hb => ?_⟩
  · by_cases hbn : b = mj_nx M
    · subst hbn; exact ⟨h3, Nat.lt_succ_self _⟩
    · have := h4 b (by rw [hold b _ rfl hbn]; exact hb)
      exact ⟨this.1, Nat.lt_succ_of_lt this.2⟩
  · have hci : ci' < 12 := (List.getElem?_eq_some_iff.mp hq).1
    have hbn : b ≠ mj_nx M := fun z => by have := hnew b z; omega
    have hb' := hold b _ hb hbn
    exact ((h5 b ci' q hb' hq).kept (hcell b (by omega))).to (fun j _ => (mj_fv_off (hfv b hbn) j _).symm)
  · by_cases hbn : b = mj_nx M
    · subst hbn
      rw [← h1, Nat.add_sub_cancel, c6, h1, hz.1, hz.2]
    · have hb' := hold b _ hb hbn
      rw [hcell b (by omega), h6 b hb', (hfv b hbn).1, hln b hbn]
  · have hbn : b ≠ mj_nx M := fun z => by have := hnew b z; omega
    have hb' := hold b _ hb hbn
    rw [hcell b (by omega), h7 b hb', (hfv b hbn).2.2, hln b hbn]
  · have hbn : b ≠ mj_nx M := fun z => by have := hnew b z; omega
    have hb' := hold b _ hb hbn
    rw [hcell b (by omega), h8 b hb', (hfv b hbn).1, hln b hbn]
section MJCP2
variable {g : mj_G} {y : MethodName} {cc : ByteArray} {nL : Nat} {ret : Option FieldType} {rm : Room} {pc : Nat} {L : List (Nat × mj_Vt)} {st : List mj_Vt} {M : mj_M} {k n : Nat}
theorem mx_clone {a idx N k' n' : Nat} (hC : mj_C g y cc nL ret rm) (hlk : Cond.methodLink y.cls idx ⟨"[I", "clone", "()Ljava/lang/Object;"⟩ ∈ mj_tbl) (ht : mj_tag M a = 101) (hN : mj_len M a = N) (hst : (st.map mj_cat).sum ≤ 8) (hkn : k + 1 = k' ∧ n + N = n' ∧ k' ≤ rm.cells ∧ n' ≤ rm.slots ∧ 1 ≤ rm.frames ∧ 22 ≤ rm.locals) (hd : decode cc pc = .ok (.invokevirtual idx, 3))
    (kk : mj_X g (pc + 3) L (vR (mj_nx M) :: st) (mj_copy M a N) k' n') : mj_X g pc L (vR a :: st) M k n := by
  obtain ⟨p, l, e, R, s, m, args, below, meth, c, Q, base, D, A⟩ := g
  obtain ⟨hx, hb, hml, hr, hown, hnm, hRm, hts, hK, hN2, hZ, hbs, -⟩ := hC
  obtain ⟨rfl, rfl, hk1, hk2, hk3, hk4⟩ := hkn
  subst hRm; subst hN
  intro H ls lc hR hl hS
  have hc := hR.2.2.2.2.2.1 a ht
  simp only [List.map_cons]
  rw [show mj_val (vR a) = .ref (a - 1) from mj_rfs (hR.tag0 ht (by omega)).1]
  refine mj_cloneW hx hb hl.1.symm hown (hts _ hlk) (hts _ twh726) (hts _ twh727) (hts _ twh728) (hts _ twh729) hZ.2.2.1 (mj_ar3 hK).1 (va_nm_int (hK.2 0 _ rfl).2) hc hk3 (by rw [mj_catL]; omega) hk1 hk2 hd ?_
  generalize hH1 : H.push _ = H1
  have z1 : H1.size = H.size + 1 := by rw [← hH1, Array.size_push]
  have e1 : H1[H.size]? = some (vp_cell A.1 (mj_len M a, .inl (mj_i M a))) := by rw [← hH1, Array.getElem?_push_size]
  have o1 : ∀ q : Nat, q < H.size → H1[q]? = H[q]? := fun q hq => by rw [← hH1, Array.getElem?_push, if_neg (Nat.ne_of_lt hq)]
  have hres := kk H1 ls lc (mj_copyR hR z1 o1 e1) hl ⟨Nat.le_trans hS.1 (by omega), fun q h9 h10 => (o1 q (Nat.lt_of_lt_of_le h9 hS.1)).trans (hS.2.1 q h9 h10), hS.2.2⟩
  simp only [List.map_cons] at hres
  rw [show mj_val (vR (mj_nx M)) = .ref H.size by rw [← hR.1]; exact mj_rfs (by omega)] at hres
  exact hres
theorem mx_castI {a idx : Nat} (hC : mj_C g y cc nL ret rm) (hlk : Cond.classLink y.cls idx "[I" ∈ mj_tbl) (ht : mj_tag M a = 101) (hd : decode cc pc = .ok (.checkcast idx, 3)) (kk : mj_X g (pc + 3) L (vR a :: st) M k n) : mj_X g pc L (vR a :: st) M k n := by
  obtain ⟨p, l, e, R, s, m, args, below, meth, c, Q, base, D, A⟩ := g
  obtain ⟨hx, hb, hml, hr, hown, hnm, hRm, hts, hK, hN2, hZ, hbs, -⟩ := hC
  intro H ls lc hR hl hS
  have hc := hR.2.2.2.2.2.1 a ht
  have h3 := kk H ls lc hR hl hS
  simp only [List.map_cons] at h3 ⊢
  rw [show mj_val (vR a) = .ref (a - 1) from mj_rfs (hR.tag0 ht (by omega)).1] at h3 ⊢
  exact va_castA (D := D) (cl := mj_cl) (ws := [(a - 1, .inl (A.1, (mj_len M a, .inl (mj_i M a))))]) hx hb hown (hts _ hlk) (fun k q hk => by
    have hz : k < 1 := (List.getElem?_eq_some_iff.mp hk).1
    rw [show k = 0 by omega] at hk
    cases hk
    exact hc) 0 rfl (va_nm_int (hK.2 0 _ rfl).2) hd h3
theorem mj_cell_ext {cA : ClassId} {n : Nat} {f h : Nat → Int32} (e : ∀ j, j < n → f j = h j) : vp_cell cA (n, .inl f) = vp_cell cA (n, .inl h) := by
  rw [vp_cell_i, vp_cell_i]
  unfold arrV
  congr 1
  apply Array.ext
  · simp
  · intro j h1 h2
    simp only [Array.getElem_ofFn]
    rw [e j (by simpa using h1)]
theorem mx_copy {a idx N : Nat} {z : Int32} (hC : mj_C g y cc nL ret rm) (hlk : Cond.methodLink y.cls idx arraycopyName ∈ mj_tbl) (ht : mj_tag M a = 101) (han : a ≠ mj_nx M) (hz0 : ¬ z < 0) (hzN : z.toNatClampNeg = N) (hN : N ≤ mj_len M a) (hst : (st.map mj_cat).sum ≤ 8) (hrm : 1 ≤ rm.frames ∧ 8 + (nativeFrameWords "java/lang/System" "arraycopy" 5 + 11) ≤ rm.locals) (hd : decode cc pc = .ok (.invokestatic idx, 3))
    (kk : mj_X g (pc + 3) L st (mj_copy M a N) k n) : mj_X g pc L (vI z :: vI 0 :: vR (mj_nx M) :: vI 0 :: vR a :: st) (mj_newa M 101 N) k n := by
  obtain ⟨p, l, e, R, s, m, args, below, meth, c, Q, base, D, A⟩ := g
  obtain ⟨hx, hb, hml, hr, hown, hnm, hRm, hts, hK, hN2, hZ, hbs, -⟩ := hC
  subst hRm; subst hzN
  intro H ls lc hR hl hS
  have hta : mj_tag (mj_newa M 101 z.toNatClampNeg) a = 101 := by rw [← ht]; exact mj_u1_ne _ han
  have htn : mj_tag (mj_newa M 101 z.toNatClampNeg) (mj_nx M) = 101 := mj_u1_at _
  have hca := hR.2.2.2.2.2.1 a hta
  have hcn := hR.2.2.2.2.2.1 _ htn
  have hna := hR.tag0 htn (by omega)
  have haa := hR.tag0 hta (by omega)
  have ea : mj_i (mj_newa M 101 z.toNatClampNeg) a = mj_i M a := mj_u1_ne _ han
  have el : mj_len (mj_newa M 101 z.toNatClampNeg) a = mj_len M a := mj_u1_ne _ han
  have en : mj_len (mj_newa M 101 z.toNatClampNeg) (mj_nx M) = z.toNatClampNeg := mj_u1_at _
  rw [ea, el] at hca
  rw [en] at hcn
  simp only [List.map_cons]
  rw [show mj_val (vR a) = .ref (a - 1) from mj_rfs haa.1, show mj_val (vR (mj_nx M)) = .ref (mj_nx M - 1) from mj_rfs hna.1]
  refine mj_copyW (p := p) (l := l) (e := e) (below := below) (meth := meth) (Q := Q) hx hb hl.1.symm hown (hts _ hlk) (hts _ twh735) (hts _ twh734) (hts _ tw_sys) (mj_ar3 hK).1 hca hcn (by decide) (by decide) hz0 (by show 0 + _ ≤ _; omega) (by show 0 + _ ≤ _; omega) hrm.1 (by rw [mj_catL]; omega) hd (fun H1 L1 e1 e2 e3 e4 => ?_)
  refine kk H1 ls (lc ++ L1) (hR.upd (a := mj_nx M) hna.1 ⟨rfl, rfl, rfl, fun b hb => ⟨(mj_u1_ne _ hb).trans (mj_u1_ne _ hb).symm, rfl, (mj_u1_ne _ hb).trans (mj_u1_ne _ hb).symm⟩⟩ e2 e3 (fun ci q h hq => ?_) (fun _ => ?_) (fun h => by omega) (fun h => by omega)) hl ⟨by rw [e2]; exact hS.1, fun q h9 h10 => ?_, fun q hq => ?_⟩
  · have h2 := (List.getElem?_eq_some_iff.mp hq).1
    have h3 : mj_cs.length = 12 := rfl
    omega
  · rw [e1, en]
    have e5 : mj_i (mj_copy M a z.toNatClampNeg) (mj_nx M) = mj_i M a := mj_u1_at _
    rw [e5]
    congr 1
    apply mj_cell_ext
    intro j hj
    have : (0 : Int32).toNatClampNeg = 0 := by decide
    rw [this]
    rw [pk_cpy_in (Nat.zero_le j) (show j < 0 + z.toNatClampNeg by omega)]
    congr 1
    omega
  · rw [e3 q (fun z => h10 (by rw [z]; exact hna.2.1))]
    exact hS.2.1 q h9 h10
  · rcases List.mem_append.mp hq with h | h
    · exact hS.2.2 q h
    · rw [e4 q h]; exact hna.2.1
end MJCP2
def rm_J7_copyOf_59c91 : Room := { frames := 2, cells := 1, slots := 48, locals := 60 }
def vc_J7_copyOf_59c91 (l0 : Nat) (l1 : Int32) (M : mj_M) (post : Nat → mj_M → Prop) : Prop := mj_tag M l0 = 101 ∧ ¬ l0 = mj_nx M ∧ ¬ l1 < 0 ∧ l1.toNatClampNeg ≤ 48 ∧ mj_len M l0 = 48 ∧ post (mj_nx M) (mj_copy M l0 l1.toNatClampNeg)
theorem t9_min_k : (Jvm.Cond.code ({ cls := "java/lang/Math", name := "min", desc := "(II)I" } : Jvm.MethodName) prog_18_method_69_code (2 : Nat) (Option.some Jvm.ClassFile.FieldType.int)) ∈ mj_tbl := mj_w 420 (by decide +kernel) (by decide +kernel)
theorem t9_min_i : (Jvm.Cond.initialized "java/lang/Math") ∈ mj_tbl := mj_w 18 (by decide +kernel) (by decide +kernel)
theorem t9_min_s : (Jvm.Cond.static ({ cls := "java/lang/Math", name := "min", desc := "(II)I" } : Jvm.MethodName)) ∈ mj_tbl := mj_w 419 (by decide +kernel) (by decide +kernel)
theorem t9_min_l : (Jvm.Cond.methodLink "java/util/Arrays" (304 : Nat) ({ cls := "java/lang/Math", name := "min", desc := "(II)I" } : Jvm.MethodName)) ∈ mj_tbl := mj_w 621 (by decide +kernel) (by decide +kernel)
theorem t9_ai : (Jvm.Cond.arrayClass Jvm.ClassFile.FieldType.int) ∈ mj_tbl := mj_w 65 (by decide +kernel) (by decide +kernel)
theorem t9_min : mj_YS yJ9_min_7cf53 cJ9_min_7cf53 2 (some .int) 2 := ⟨⟨t9_min_k, t9_min_i, by decide +kernel, by decide +kernel, by decide +kernel⟩, t9_min_s⟩
theorem dJ7_copyOf_59c91_0 : decode cJ7_copyOf_59c91 0 = .ok (.iload_n 1, 1) := by decide +kernel
theorem dJ7_copyOf_59c91_1 : decode cJ7_copyOf_59c91 1 = .ok (.aload_n 0, 1) := by decide +kernel
theorem dJ7_copyOf_59c91_2 : decode cJ7_copyOf_59c91 2 = .ok (.arraylength, 1) := by decide +kernel
theorem dJ7_copyOf_59c91_3 : decode cJ7_copyOf_59c91 3 = .ok (.if_icmp .ne 11, 3) := by decide +kernel
theorem dJ7_copyOf_59c91_6 : decode cJ7_copyOf_59c91 6 = .ok (.aload_n 0, 1) := by decide +kernel
theorem dJ7_copyOf_59c91_7 : decode cJ7_copyOf_59c91 7 = .ok (.invokevirtual 316, 3) := by decide +kernel
theorem dJ7_copyOf_59c91_10 : decode cJ7_copyOf_59c91 10 = .ok (.checkcast 317, 3) := by decide +kernel
theorem dJ7_copyOf_59c91_13 : decode cJ7_copyOf_59c91 13 = .ok (.areturn, 1) := by decide +kernel
theorem dJ7_copyOf_59c91_14 : decode cJ7_copyOf_59c91 14 = .ok (.iload_n 1, 1) := by decide +kernel
theorem dJ7_copyOf_59c91_15 : decode cJ7_copyOf_59c91 15 = .ok (.newarray .int, 2) := by decide +kernel
theorem dJ7_copyOf_59c91_17 : decode cJ7_copyOf_59c91 17 = .ok (.astore_n 2, 1) := by decide +kernel
theorem dJ7_copyOf_59c91_18 : decode cJ7_copyOf_59c91 18 = .ok (.aload_n 0, 1) := by decide +kernel
theorem dJ7_copyOf_59c91_19 : decode cJ7_copyOf_59c91 19 = .ok (.iconst 0, 1) := by decide +kernel
theorem dJ7_copyOf_59c91_20 : decode cJ7_copyOf_59c91 20 = .ok (.aload_n 2, 1) := by decide +kernel
theorem dJ7_copyOf_59c91_21 : decode cJ7_copyOf_59c91 21 = .ok (.iconst 0, 1) := by decide +kernel
theorem dJ7_copyOf_59c91_22 : decode cJ7_copyOf_59c91 22 = .ok (.aload_n 0, 1) := by decide +kernel
theorem dJ7_copyOf_59c91_23 : decode cJ7_copyOf_59c91 23 = .ok (.arraylength, 1) := by decide +kernel
theorem dJ7_copyOf_59c91_24 : decode cJ7_copyOf_59c91 24 = .ok (.iload_n 1, 1) := by decide +kernel
theorem dJ7_copyOf_59c91_25 : decode cJ7_copyOf_59c91 25 = .ok (.invokestatic 304, 3) := by decide +kernel
theorem dJ7_copyOf_59c91_28 : decode cJ7_copyOf_59c91 28 = .ok (.invokestatic 150, 3) := by decide +kernel
theorem dJ7_copyOf_59c91_31 : decode cJ7_copyOf_59c91 31 = .ok (.aload_n 2, 1) := by decide +kernel
theorem dJ7_copyOf_59c91_32 : decode cJ7_copyOf_59c91 32 = .ok (.areturn, 1) := by decide +kernel
set_option maxHeartbeats 4000000 in
set_option maxRecDepth 100000 in
theorem ct_J7_copyOf_59c91 {l : Launch} {base : Nat} {D : va_G} {A : mj_AT} (l0 : Nat) (l1 : Int32) (M : mj_M) (post : Nat → mj_M → Prop) (h : vc_J7_copyOf_59c91 l0 l1 M post) : mj_Met l base D A mj_jR yJ7_copyOf_59c91 cJ7_copyOf_59c91 3 (some (.array .int)) rm_J7_copyOf_59c91 1 48 [vR l0, vI l1] M post := by
  refine mj_entry (by decide +kernel) (Nat.le_of_ble_eq_true rfl) (fun g hC hE h1 h2 h3 h4 => ?_)
  show mj_X g 0 [(0, vR l0), (1, vI l1)] [] M 0 0
  obtain ⟨ht, hn, hl0, hl48, hlen, h⟩ := h
  refine mx_iload_n (j := 1) hC dJ7_copyOf_59c91_0 rfl rfl ?_
  refine mx_aload_n (j := 0) hC dJ7_copyOf_59c91_1 rfl rfl ?_
  refine mx_alen hC ht dJ7_copyOf_59c91_2 ?_
  refine mx_icmpne (tgt := 14) hC dJ7_copyOf_59c91_3 (by decide) (fun hc => ?_) (fun hc => ?_)
  · refine mx_iload_n (j := 1) hC dJ7_copyOf_59c91_14 rfl rfl ?_
    refine mx_newi (N := l1.toNatClampNeg) (k' := 1) (n' := 48) hC t9_ai hl0 rfl (by omega) ⟨rfl, by omega, by decide, by decide⟩ dJ7_copyOf_59c91_15 ?_
    refine mx_astore_n (L' := [(2, vR (mj_nx M)), (0, vR l0), (1, vI l1)]) hC dJ7_copyOf_59c91_17 rfl (by decide) rfl ?_
    refine mx_aload_n (j := 1) hC dJ7_copyOf_59c91_18 rfl rfl ?_
    refine mx_iconst (v := 0) hC dJ7_copyOf_59c91_19 (by decide) ?_
    refine mx_aload_n (j := 0) hC dJ7_copyOf_59c91_20 rfl rfl ?_
    refine mx_iconst (v := 0) hC dJ7_copyOf_59c91_21 (by decide) ?_
    refine mx_aload_n (j := 1) hC dJ7_copyOf_59c91_22 rfl rfl ?_
    have hta : mj_tag (mj_newa M 101 l1.toNatClampNeg) l0 = 101 := by rw [← ht]; exact mj_u1_ne _ hn
    have hle : mj_len (mj_newa M 101 l1.toNatClampNeg) l0 = 48 := by rw [← hlen]; exact mj_u1_ne _ hn
    refine mx_alen hC hta dJ7_copyOf_59c91_23 ?_
    refine mx_iload_n (j := 2) hC dJ7_copyOf_59c91_24 rfl rfl ?_
    rw [hle]
    have hmin : vc_J9_min_7cf53 (Int32.ofNat 48) l1 (mj_newa M 101 l1.toNatClampNeg) (fun r M1 => r = l1 ∧ M1 = mj_newa M 101 l1.toNatClampNeg) := by
      unfold vc_J9_min_7cf53
      obtain ⟨j, hj, rfl⟩ := nI_of hl0
      rw [nI_clamp hj] at hl48
      split
      · exact ⟨rfl, rfl⟩
      · rename_i hge
        refine ⟨?_, rfl⟩
        have h9 : ¬ nI j < nI 48 := hge
        by_cases hj2 : j < 48
        · exact absurd (nI_lt hj2 (by omega)) h9
        · rw [show j = 48 by omega]; rfl
    refine mx_callS (inj := mj_jI) (As := [vI (Int32.ofNat 48), vI l1]) (st := [vI 0, vR (mj_nx M), vI 0, vR l0]) hC (ct_J9_min_7cf53 _ l1 _ _ hmin) t9_min t9_min_l rfl (Nat.le_of_ble_eq_true rfl) ⟨rfl, rfl, ⟨by decide, by decide⟩, by decide, by decide⟩ dJ7_copyOf_59c91_25 (fun r M1 hr => ?_)
    obtain ⟨rfl, rfl⟩ := hr
    show mj_X g 28 [(2, vR (mj_nx M)), (0, vR l0), (1, vI r)] [vI r, vI 0, vR (mj_nx M), vI 0, vR l0] (mj_newa M 101 r.toNatClampNeg) 1 48
    refine mx_copy hC twh733 ht hn hl0 rfl (by omega) (Nat.le_of_ble_eq_true rfl) ⟨by decide, by decide +kernel⟩ dJ7_copyOf_59c91_28 ?_
    refine mx_aload_n (j := 0) hC dJ7_copyOf_59c91_31 rfl rfl ?_
    exact mx_aret hC hE rfl (Or.inr ⟨_, rfl⟩) dJ7_copyOf_59c91_32 h
  · have e48 : l1.toNatClampNeg = 48 := by rw [hc, hlen]; decide
    rw [e48] at h
    refine mx_aload_n (j := 0) hC dJ7_copyOf_59c91_6 rfl rfl ?_
    refine mx_clone (N := 48) (k' := 1) (n' := 48) hC twh725 ht hlen (Nat.le_of_ble_eq_true rfl) ⟨rfl, rfl, by decide, by decide, by decide, by decide⟩ dJ7_copyOf_59c91_7 ?_
    have htn : mj_tag (mj_copy M l0 48) (mj_nx M) = 101 := mj_u1_at _
    refine mx_castI hC twh731 htn dJ7_copyOf_59c91_10 ?_
    exact mx_aret hC hE rfl (Or.inr ⟨_, rfl⟩) dJ7_copyOf_59c91_13 h
def rm_X11_isFact : Room := { frames := 8, cells := 0, slots := 0, locals := 250 }
def mj_fact (x : Int32) : Bool := decide (x = 108 ∨ x = 116 ∨ x = 104 ∨ x = 114 ∨ x = 102 ∨ x = 111 ∨ x = 115)
def vc_X11_isFact (l0 : Int32) (M : mj_M) (post : Bool → mj_M → Prop) : Prop := post (mj_fact l0) M

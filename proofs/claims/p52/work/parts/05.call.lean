/-! THE LAYER, third part: making, returning, calling. -/
theorem mj_nest_form {w : Cond} (h : w ∈ mj_nest) : ∃ a i x b, w = .methodLinkNest a i x b := by
  have h2 := (List.mem_filter.mp h).2
  cases w <;> first | exact ⟨_, _, _, _, rfl⟩ | (simp at h2; done)
theorem mj_good {y : MethodName} {b : ByteArray} {nL : Nat} {ret : Option FieldType} (h : Cond.code y b nL ret ∈ mj_tbl) : GoodIn mj_tbl (.code y b nL ret :: mj_tbl) := by
  intro w hw
  rcases List.mem_cons.mp hw with rfl | hw
  · exact ⟨h, good_of_word (List.mem_filter.mp h).2⟩
  · exact ⟨hw, good_of_word (List.mem_filter.mp hw).2⟩
theorem mj_blind {base : Nat} {D : va_G} {A : mj_AT} {M : mj_M} {av : List Value} : FrameBlind (va_Pc av (mj_U base D A M)) := fun a U g mk q => by
  obtain ⟨q0, q1, q2, q3, q4, q5⟩ := q
  refine ⟨q0, q1, va_K.moved (u := U) (U := U.calling g mk a) (Vm.Alike.refl U.vm) q2, fun w hw => ?_, mj_Z.same (u := U) (U := U.calling g mk a) rfl q4, q5⟩
  obtain ⟨_, _, _, _, rfl⟩ := mj_nest_form hw
  exact va_Nw.same rfl (u := U) (U := U.calling g mk a) rfl (q3 _ hw)
/-- what is known of a method that is called -/
def mj_Y (y : MethodName) (b : ByteArray) (nL : Nat) (ret : Option FieldType) (np : Nat) : Prop := Cond.code y b nL ret ∈ mj_tbl ∧ Cond.initialized y.cls ∈ mj_tbl ∧ (y.cls ≠ "java/lang/invoke/MethodHandle" ∧ y.cls ≠ "java/lang/invoke/VarHandle" ∧ (parseMethodDescriptor y.desc).map (fun d => d.parameters.length) = some np)
def mj_YV (ci : Nat) (y : MethodName) (b : ByteArray) (nL : Nat) (ret : Option FieldType) (np : Nat) : Prop := mj_Y y b nL ret np ∧ Cond.instanceMethod y ∈ mj_tbl ∧ Cond.selects y.cls y y ∈ mj_tbl ∧ ∃ q : mj_Cs, mj_cs[ci]? = some q ∧ q.1 = y.cls
def mj_YS (y : MethodName) (b : ByteArray) (nL : Nat) (ret : Option FieldType) (np : Nat) : Prop := mj_Y y b nL ret np ∧ Cond.static y ∈ mj_tbl
def mj_YI (y : MethodName) (b : ByteArray) (nL : Nat) (np : Nat) : Prop := mj_Y y b nL none np ∧ Cond.instanceMethod y ∈ mj_tbl ∧ y.name = "<init>"
def mj_rok (rm rm2 : Room) (nL2 mc ms k n : Nat) : Prop := rm2.cells = mc ∧ rm2.slots = ms ∧ (rm2.frames + 1 ≤ rm.frames ∧ 8 + (nL2 + 11) + rm2.locals ≤ rm.locals) ∧ (k + mc ≤ rm.cells ∧ n + ms ≤ rm.slots)
section MJCALL
variable {g : mj_G} {y : MethodName} {cc : ByteArray} {nL : Nat} {ret : Option FieldType} {rm : Room} {pc : Nat} {L : List (Nat × mj_Vt)} {st stk : List mj_Vt} {M : mj_M} {k n : Nat}
theorem mx_new {q : mj_Cs} {ci idx k' n' : Nat} (hC : mj_C g y cc nL ret rm) (hq : mj_KC ci q) (hcl : Cond.classLink y.cls idx q.1 ∈ mj_tbl) (hins : Cond.instantiable q.1 q.2.2.1 ∈ mj_tbl) (hini : Cond.initialized q.1 ∈ mj_tbl) (hkn : k + 1 = k' ∧ n + q.2.2.1 = n' ∧ k' ≤ rm.cells ∧ n' ≤ rm.slots) (hd : decode cc pc = .ok (.new idx, 3))
    (kk : mj_X g (pc + 3) L (vR (mj_nx M) :: st) (mj_new M ci) k' n') : mj_X g pc L st M k n := by
  obtain ⟨p, l, e, R, s, m, args, below, meth, c, Q, base, D, A⟩ := g
  obtain ⟨hx, hb, hml, hr, hown, hnm, hRm, hts, hK, hN, hZ, hbs, -⟩ := hC
  obtain ⟨C, T, N, ty⟩ := q
  obtain ⟨f1, f2, f3, f4, f5⟩ := hq
  obtain ⟨rfl, rfl, hk1, hk2⟩ := hkn
  subst hRm
  intro H ls lc hR hl hS
  have hKn := hK.1 ci _ (mj_cs_cl f1)
  have hci : ci < 12 := (List.getElem?_eq_some_iff.mp f1).1
  obtain ⟨h1, h2, h3, h4, h5, h6, h7, h8⟩ := hR
  refine W.newcK hx hb hown (hts _ hcl) (hts _ hins) (hts _ hini) rfl hd hk1 hk2 hKn.2.1 rfl fun H1 kC hkC e1 z1 o1 => ?_
  have hne : ∀ b, mj_tag M b ≠ 0 → b ≠ mj_nx M := fun b hb => by have := (h4 b hb).2; omega
  have hold : ∀ b t, mj_tag (mj_new M ci) b = t → b ≠ mj_nx M → mj_tag M b = t := fun b t hb hbn => by rw [← hb]; exact (mj_u1_ne (mj_tag M) hbn).symm
  have hnew : ∀ b, b = mj_nx M → mj_tag (mj_new M ci) b = ci + 1 := fun b hb => by rw [hb]; exact mj_u1_at (mj_tag M)
  have hfv : ∀ b, b ≠ mj_nx M → mj_i (mj_new M ci) b = mj_i M b ∧ mj_r (mj_new M ci) b = mj_r M b ∧ mj_l (mj_new M ci) b = mj_l M b := fun b hb => ⟨mj_u1_ne _ hb, mj_u1_ne _ hb, mj_u1_ne _ hb⟩
  have hcell : ∀ b, mj_tag M b ≠ 0 → H1[b - 1]? = H[b - 1]? := fun b hb => o1 _ (by have := h4 b hb; omega)
  have key : mj_R base D A (mj_new M ci) H1 := by
    refine ⟨by rw [z1, h1]; rfl, h2, Nat.lt_trans h3 (Nat.lt_succ_self _), fun b hb => ?_, fun b ci' q hb hq => ?_, fun b hb => ?_, fun b hb => ?_, fun b hb => ?_⟩
    · by_cases hbn : b = mj_nx M
      · subst hbn; exact ⟨h3, Nat.lt_succ_self _⟩
      · have := h4 b (by rw [hold b _ rfl hbn]; exact hb)
        exact ⟨this.1, Nat.lt_succ_of_lt this.2⟩
    · by_cases hbn : b = mj_nx M
      · have hcc : ci' = ci := by have := hnew b hbn; omega
        subst hcc
        cases f1.symm.trans hq
        have e1' : H1[b - 1]? = some (blank (D.1 ci') kC) := by rw [hbn, ← h1]; exact e1
        refine (u_born ty hts f2 hKn hkC e1' f3).to (fun j hj => ?_)
        have h9 := f5 j hj
        dsimp only at h9 ⊢
        generalize ty j = t at h9
        subst hbn
        cases t <;> first | (simp [mj_okt] at h9; done) | (simp [defaultValue, mj_fv, mj_new, mj_i, mj_r, mj_l, mj_u1, mj_rf])
      · have hb' := hold b _ hb hbn
        exact ((h5 b ci' q hb' hq).kept (hcell b (by omega))).to (fun j _ => (mj_fv_off (hfv b hbn) j _).symm)
    · have hbn : b ≠ mj_nx M := fun z => by have := hnew b z; omega
      have hb' := hold b _ hb hbn
      rw [hcell b (by omega), h6 b hb', (hfv b hbn).1]
      rfl
    · have hbn : b ≠ mj_nx M := fun z => by have := hnew b z; omega
      have hb' := hold b _ hb hbn
      rw [hcell b (by omega), h7 b hb', (hfv b hbn).2.2]
      rfl
    · have hbn : b ≠ mj_nx M := fun z => by have := hnew b z; omega
      have hb' := hold b _ hb hbn
      rw [hcell b (by omega), h8 b hb', (hfv b hbn).1]
      rfl
  have hres := kk H1 ls lc key hl ⟨Nat.le_trans hS.1 (by omega), fun q h9 h10 => (o1 q (Nat.lt_of_lt_of_le h9 hS.1)).trans (hS.2.1 q h9 h10), hS.2.2⟩
  simp only [List.map_cons] at hres
  rw [show mj_val (vR (mj_nx M)) = .ref H.size by rw [← h1]; exact mj_rfs (by omega)] at hres
  exact hres
theorem mj_newaR {base : Nat} {D : va_G} {A : mj_AT} {H H1 : Heap} {t N : Nat} (hR : mj_R base D A M H) (ht : 100 < t) (z1 : H1.size = H.size + 1) (o1 : ∀ q, q < H.size → H1[q]? = H[q]?)
    (c6 : t = 101 → H1[H.size]? = some (vp_cell A.1 (N, .inl (fun _ => 0)))) (c7 : t = 102 → H1[H.size]? = some (vp_cell A.2.1 (N, .inr (.inl (fun _ => 0))))) (c8 : t = 103 → H1[H.size]? = some (vp_cell A.2.2.1 (N, .inl (fun _ => 0)))) : mj_R base D A (mj_newa M t N) H1 := by
  obtain ⟨h1, h2, h3, h4, h5, h6, h7, h8⟩ := hR
  have hold : ∀ b t', mj_tag (mj_newa M t N) b = t' → b ≠ mj_nx M → mj_tag M b = t' := fun b t' hb hbn => by rw [← hb]; exact (mj_u1_ne (mj_tag M) hbn).symm
  have hnew : ∀ b, b = mj_nx M → mj_tag (mj_newa M t N) b = t := fun b hb => by rw [hb]; exact mj_u1_at (mj_tag M)
  have hfv : ∀ b, b ≠ mj_nx M → mj_i (mj_newa M t N) b = mj_i M b ∧ mj_r (mj_newa M t N) b = mj_r M b ∧ mj_l (mj_newa M t N) b = mj_l M b := fun b hb => ⟨mj_u1_ne _ hb, rfl, mj_u1_ne _ hb⟩
  have hln : ∀ b, b ≠ mj_nx M → mj_len (mj_newa M t N) b = mj_len M b := fun b hb => mj_u1_ne _ hb
  have hcell : ∀ b, mj_tag M b ≠ 0 → H1[b - 1]? = H[b - 1]? := fun b hb => o1 _ (by have := h4 b hb; omega)
  have hz : mj_len (mj_newa M t N) (mj_nx M) = N ∧ mj_i (mj_newa M t N) (mj_nx M) = (fun _ => 0) ∧ mj_l (mj_newa M t N) (mj_nx M) = (fun _ => 0) := ⟨mj_u1_at _, mj_u1_at _, mj_u1_at _⟩
  refine ⟨by rw [z1, h1]; rfl, h2, Nat.lt_trans h3 (Nat.lt_succ_self _), fun b hb => ?_, fun b ci' q hb hq => ?_, fun b hb => ?_, fun b hb => ?_, fun b hb => ?_⟩
  · by_cases hbn : b = mj_nx M
    · subst hbn; exact ⟨h3, Nat.lt_succ_self _⟩
    · have := h4 b (by rw [hold b _ rfl hbn]; exact hb)
      exact ⟨this.1, Nat.lt_succ_of_lt this.2⟩
  · have hci : ci' < 12 := (List.getElem?_eq_some_iff.mp hq).1
    have hbn : b ≠ mj_nx M := fun z => by have := hnew b z; omega
    have hb' := hold b _ hb hbn
    exact ((h5 b ci' q hb' hq).kept (hcell b (by omega))).to (fun j _ => (mj_fv_off (hfv b hbn) j _).symm)
  · by_cases hbn : b = mj_nx M
    · subst hbn
      rw [← h1, Nat.add_sub_cancel, c6 (by rw [← hb]; exact (hnew _ rfl).symm), h1, hz.1, hz.2.1]
    · have hb' := hold b _ hb hbn
      rw [hcell b (by omega), h6 b hb', (hfv b hbn).1, hln b hbn]
  · by_cases hbn : b = mj_nx M
    · subst hbn
      rw [← h1, Nat.add_sub_cancel, c7 (by rw [← hb]; exact (hnew _ rfl).symm), h1, hz.1, hz.2.2]
    · have hb' := hold b _ hb hbn
      rw [hcell b (by omega), h7 b hb', (hfv b hbn).2.2, hln b hbn]
  · by_cases hbn : b = mj_nx M
    · subst hbn
      rw [← h1, Nat.add_sub_cancel, c8 (by rw [← hb]; exact (hnew _ rfl).symm), h1, hz.1, hz.2.1]
    · have hb' := hold b _ hb hbn
      rw [hcell b (by omega), h8 b hb', (hfv b hbn).1, hln b hbn]
theorem mx_newi {x : Int32} {N k' n' : Nat} (hC : mj_C g y cc nL ret rm) (hw : Cond.arrayClass .int ∈ mj_tbl) (hx0 : ¬ x < 0) (hN : x.toNatClampNeg = N) (hNb : N ≤ 100000) (hkn : k + 1 = k' ∧ n + N ≤ n' ∧ k' ≤ rm.cells ∧ n' ≤ rm.slots) (hd : decode cc pc = .ok (.newarray .int, 2))
    (kk : mj_X g (pc + 2) L (vR (mj_nx M) :: st) (mj_newa M 101 N) k' n') : mj_X g pc L (vI x :: st) M k n := by
  obtain ⟨p, l, e, R, s, m, args, below, meth, c, Q, base, D, A⟩ := g
  obtain ⟨hx, hb, hml, hr, hown, hnm, hRm, hts, hK, hN2, hZ, hbs, -⟩ := hC
  obtain ⟨rfl, hn2, hk1, hk2⟩ := hkn
  subst hRm
  intro H ls lc hR hl hS
  refine va_newaK (atype := .int) hx hb (hts _ hw) rfl hd rfl hx0 hN (by show N * 4 ≤ _; omega) hk1 (by omega) rfl fun H1 cA e1 z1 o1 hAr hNm => ?_
  have hA : cA = A.1 := Option.some.inj (hNm.symm.trans (va_nm_int (hK.2 0 _ rfl).2))
  subst hA
  have hres := kk H1 ls lc (mj_newaR hR (by decide) z1 o1 (fun _ => e1) (fun h => by omega) (fun h => by omega)) hl ⟨Nat.le_trans hS.1 (by omega), fun q h9 h10 => (o1 q (Nat.lt_of_lt_of_le h9 hS.1)).trans (hS.2.1 q h9 h10), hS.2.2⟩
  simp only [List.map_cons] at hres
  rw [show mj_val (vR (mj_nx M)) = .ref H.size by rw [← hR.1]; exact mj_rfs (by omega)] at hres
  exact W.widen (Nat.le_refl _) hn2 hres
theorem mx_oinit {a idx : Nat} (hC : mj_C g y cc nL ret rm) (hl1 : Cond.methodLink y.cls idx Lib.objectInit ∈ mj_tbl) (hin : Cond.instanceMethod Lib.objectInit ∈ mj_tbl) (hco : Cond.code Lib.objectInit ⟨#[0xb1]⟩ 1 none ∈ mj_tbl) (ha : a ≠ 0) (hst : (st.map mj_cat).sum ≤ 8) (hrm : 1 ≤ rm.frames ∧ 20 ≤ rm.locals) (hd : decode cc pc = .ok (.invokespecial idx, 3)) (kk : mj_X g (pc + 3) L st M k n) : mj_X g pc L (vR a :: st) M k n := by
  obtain ⟨p, l, e, R, s, m, args, below, meth, c, Q, base, D, A⟩ := g
  obtain ⟨hx, hb, hml, hr, hown, hnm, hRm, hts, hK, hN2, hZ, hbs, -⟩ := hC
  subst hRm
  intro H ls lc hR hl hS
  simp only [List.map_cons]
  rw [show mj_val (vR a) = .ref (a - 1) from mj_rfs ha]
  have e1 : ((st.map mj_val).map fun v => v.category).sum = (st.map mj_cat).sum := by rw [List.map_map]; congr 1; apply List.map_congr_left; intro v _; exact mj_cat_eq v
  refine W.objInit hx hb hown (hts _ hl1) (hts _ hin) (hts _ hco) rfl hl.1 rfl hd hrm.1 ?_ ?_
  · rw [e1]; show 2 * 0 + _ + 12 ≤ _; omega
  · exact kk H ls lc hR hl hS
theorem mx_iret {x : Int32} {post : Int32 → mj_M → Prop} (hC : mj_C g y cc nL ret rm) (hE : mj_E g mj_jI post k n) (hr : ret = some .int) (hd : decode cc pc = .ok (.ireturn, 1)) (h : post x M) : mj_X g pc L [vI x] M k n := by
  obtain ⟨p, l, e, R, s, m, args, below, meth, c, Q, base, D, A⟩ := g
  obtain ⟨hx, hb, hml, hr2, hown, hnm, hRm, hts, hK, hN2, hZ, hbs, hlk⟩ := hC
  intro H ls lc hR hl hS
  simp only [mj_E] at hE
  subst hE
  exact W.iret hx hb (hr2.trans hr) (fun t ht hW => ⟨⟨x, M, rfl, h, by rw [ht]; exact hR⟩, hS.F ht⟩) hS.2.2 hd hlk
theorem mx_zret {b : Bool} {post : Bool → mj_M → Prop} (hC : mj_C g y cc nL ret rm) (hE : mj_E g mj_jB post k n) (hr : ret = some .boolean) (hd : decode cc pc = .ok (.ireturn, 1)) (h : post b M) : mj_X g pc L [vI (mj_b b)] M k n := by
  obtain ⟨p, l, e, R, s, m, args, below, meth, c, Q, base, D, A⟩ := g
  obtain ⟨hx, hb, hml, hr2, hown, hnm, hRm, hts, hK, hN2, hZ, hbs, hlk⟩ := hC
  intro H ls lc hR hl hS
  simp only [mj_E] at hE
  subst hE
  exact W.zret (ty := .boolean) hx hb (hr2.trans hr) (mj_fitZ b).1 (fun t ht hW => ⟨⟨b, M, rfl, h, by rw [ht]; exact hR⟩, hS.F ht⟩) hS.2.2 hd hlk
theorem mx_lret {x : Int64} {post : Int64 → mj_M → Prop} (hC : mj_C g y cc nL ret rm) (hE : mj_E g mj_jL post k n) (hr : ret = some .long) (hd : decode cc pc = .ok (.lreturn, 1)) (h : post x M) : mj_X g pc L [vL x] M k n := by
  obtain ⟨p, l, e, R, s, m, args, below, meth, c, Q, base, D, A⟩ := g
  obtain ⟨hx, hb, hml, hr2, hown, hnm, hRm, hts, hK, hN2, hZ, hbs, hlk⟩ := hC
  intro H ls lc hR hl hS
  simp only [mj_E] at hE
  subst hE
  exact W.lret hx hb (hr2.trans hr) (fun t ht hW => ⟨⟨x, M, rfl, h, by rw [ht]; exact hR⟩, hS.F ht⟩) hS.2.2 hd hlk
theorem mx_aret {a : Nat} {rt : FieldType} {post : Nat → mj_M → Prop} (hC : mj_C g y cc nL ret rm) (hE : mj_E g mj_jR post k n) (hr : ret = some rt) (hrt : (∃ n, rt = .object n) ∨ ∃ t, rt = .array t) (hd : decode cc pc = .ok (.areturn, 1)) (h : post a M) : mj_X g pc L [vR a] M k n := by
  obtain ⟨p, l, e, R, s, m, args, below, meth, c, Q, base, D, A⟩ := g
  obtain ⟨hx, hb, hml, hr2, hown, hnm, hRm, hts, hK, hN2, hZ, hbs, hlk⟩ := hC
  intro H ls lc hR hl hS
  simp only [mj_E] at hE
  subst hE
  exact W.aret hx hb (hr2.trans hr) hrt (mj_rf_or a) (fun t ht hW => ⟨⟨a, M, rfl, h, by rw [ht]; exact hR⟩, hS.F ht⟩) hS.2.2 hd hlk
theorem mx_vret {post : Unit → mj_M → Prop} (hC : mj_C g y cc nL ret rm) (hE : mj_E g mj_jV post k n) (hr : ret = none) (hd : decode cc pc = .ok (.return_, 1)) (h : post () M) : mj_X g pc L [] M k n := by
  obtain ⟨p, l, e, R, s, m, args, below, meth, c, Q, base, D, A⟩ := g
  obtain ⟨hx, hb, hml, hr2, hown, hnm, hRm, hts, hK, hN2, hZ, hbs, hlk⟩ := hC
  intro H ls lc hR hl hS
  simp only [mj_E] at hE
  subst hE
  exact W.vret hx hb (hr2.trans hr) (fun t ht hW => ⟨⟨(), M, rfl, h, by rw [ht]; exact hR⟩, hS.F ht⟩) hS.2.2 hd hlk
theorem mj_catL (st : List mj_Vt) : ((st.map mj_val).map fun v => v.category).sum = (st.map mj_cat).sum := by
  rw [List.map_map]; congr 1; apply List.map_congr_left; intro v _; exact mj_cat_eq v
theorem mj_toL {o : Option mj_Vt} : (o.map mj_val).toList = o.toList.map mj_val := by cases o <;> rfl
/-- behind a call -/
theorem mj_go {α : Type} {inj : α → Option mj_Vt} {p : Program} {l : Launch} {e : Env} {R : Room} {s : State} {m : MethodId} {args : Array Value} {below : List Frame} {meth : Method} {c : Code} {Q : State → Prop} {base : Nat} {D : va_G} {A : mj_AT} {H : Heap} {ls : Array Slot} {lc : List Loc} {mc ms : Nat} {st0 : List Value} {post1 : α → mj_M → Prop} {a : Array Value}
    (hr : va_Run p l e R s m args below meth c H lc k n mc ms (F0 m pc ls st0) (st.map mj_val) (mj_Qc inj base D A post1 a) (fun q => base ≤ q)) (hl : lv_has ls c.maxLocals (L.map (fun q => (q.1, mj_val q.2)))) (hS : va_S (fun q => base ≤ q) s.heap H lc)
    (kk : ∀ r M1, post1 r M1 → mj_X (p, l, e, R, s, m, args, below, meth, c, Q, base, D, A) (pc + 3) L ((inj r).toList ++ st) M1 (k + mc) (n + ms)) : W p l e R s m args below meth c H lc k n Q (F0 m pc ls st0) := by
  intro T hT X
  obtain ⟨v, st₀, t, T', LL, h0, X', hL, e1, e2, ⟨⟨r, M1, hv, hp, hR1⟩, hz, hk⟩, stp⟩ := hr T hT X
  cases hv
  rw [h0] at hz hk
  have h9 := kk r M1 hp T'.heap ls (lc ++ LL) (by rw [e1]; exact hR1) hl ⟨Nat.le_trans hS.1 (by rw [e1]; exact hz), fun q h1 h2 => by rw [e1, hk q (Nat.lt_of_lt_of_le h1 hS.1) h2]; exact hS.2.1 q h1 h2, fun q hq => by
      rcases List.mem_append.mp hq with h | h
      · exact hS.2.2 q h
      · exact hL q h⟩
  rw [List.map_append, ← mj_toL] at h9
  obtain ⟨t2, a1, b1⟩ := h9 T' rfl X'
  exact ⟨t2, stp t2 a1, b1⟩
theorem mj_UofC {p : Program} {l : Launch} {e : Env} {R : Room} {s : State} {m : MethodId} {args : Array Value} {below : List Frame} {meth : Method} {c : Code} {Q : State → Prop} {base : Nat} {D : va_G} {A : mj_AT} {H : Heap} {lc : List Loc} (hC : mj_C (p, l, e, R, s, m, args, below, meth, c, Q, base, D, A) y cc nL ret rm) (hR : mj_R base D A M H) (hS : va_S (fun q => base ≤ q) s.heap H lc) {U : State} (hU : U.heap = H) (hW : s.WarmedH U.vm) : mj_U base D A M U := by
  obtain ⟨hx, hb, hml, hr, hown, hnm, hRm, hts, hK, hN, hZ, hbs, -⟩ := hC
  refine ⟨by rw [hU]; exact hR, hK.moved hW.alike, fun w hw => ?_, ?_, by rw [hU]; exact Nat.le_trans hbs hS.1⟩
  · obtain ⟨_, _, _, _, rfl⟩ := mj_nest_form hw
    exact va_Nw.warmM hW (hN _ hw)
  · rw [hU]
    exact (hZ.kept hS.2.1).warm hW
theorem mx_callV {α : Type} {inj : α → Option mj_Vt} {y2 : MethodName} {b2 : ByteArray} {nL2 mc ms idx ci a : Nat} {ret2 : Option FieldType} {rm2 : Room} {As : List mj_Vt} {post1 : α → mj_M → Prop} (hC : mj_C g y cc nL ret rm) (hM : mj_Met (mj_l1 g) (mj_bs g) (mj_dd g) (mj_aa g) inj y2 b2 nL2 ret2 rm2 mc ms (vR a :: As) M post1) (hY : mj_YV ci y2 b2 nL2 ret2 As.length) (hlk : Cond.methodLink y.cls idx y2 ∈ mj_tbl) (ht : mj_tag M a = ci + 1)
    (hstk : stk = As.reverse ++ vR a :: st) (hcat : (st.map mj_cat).sum ≤ 8) (hrm : mj_rok rm rm2 nL2 mc ms k n) (hd : decode cc pc = .ok (.invokevirtual idx, 3)) (kk : ∀ r M1, post1 r M1 → mj_X g (pc + 3) L ((inj r).toList ++ st) M1 (k + mc) (n + ms)) : mj_X g pc L stk M k n := by
  obtain ⟨p, l, e, R, s, m, args, below, meth, c, Q, base, D, A⟩ := g
  subst hstk
  intro H ls lc hR hl hS
  have hC' := hC
  obtain ⟨hx, hb, hml, hr, hown, hnm, rfl, hts, hK, hN, hZ, hbs, -⟩ := hC
  obtain ⟨⟨y1, y3, y4⟩, y5, y6, q, y7, y8⟩ := hY
  obtain ⟨r1, r2, r3, r4⟩ := hrm
  have ha := (hR.tag0 ht (by omega)).1
  have hst : (List.map mj_val (As.reverse ++ vR a :: st)) = (As.map mj_val).reverse ++ .ref (a - 1) :: st.map mj_val := by
    rw [List.map_append, List.map_reverse, List.map_cons, show mj_val (vR a) = .ref (a - 1) from mj_rfs ha]
  rw [hst]
  have hrecv : ∃ cellB : Cell, H[a - 1]? = some cellB ∧ cellB.vm.isStatics = false ∧ s.vm.findClass y2.cls = some cellB.cls := by
    obtain ⟨cell, q1, q2, q3, q4⟩ := hR.2.2.2.2.1 a ci _ ht y7
    exact ⟨cell, q1, by rw [q3]; rfl, by rw [q2, ← y8]; exact (hK.1 ci _ (mj_cs_cl y7)).2.1⟩
  refine mj_go (a := #[]) ?_ hl hS kk
  exact va_runV (g := F0 m pc ls ((As.map mj_val).reverse ++ .ref (a - 1) :: st.map mj_val)) (rest := st.map mj_val) (C := y2.cls) (nL := nL) ⟨hx, hb, hml, hown, hts⟩ hM ⟨callB_of As.length hts (mj_good y1) rfl r1 r2 (hts _ y3) (hts _ hlk) y4 r3, hts _ y5, hts _ y6⟩ (As := As.map mj_val) ⟨mj_blind, hrecv, fun U hU hW => ⟨by rw [List.map_cons, show mj_val (vR a) = .ref (a - 1) from mj_rfs ha], mj_UofC hC' hR hS hU hW⟩⟩ rfl (by simp) (by rw [← hml]; exact hl.1) rfl (lv_room (by rw [mj_catL]; exact hcat)) hd r4
theorem mx_callS {α : Type} {inj : α → Option mj_Vt} {y2 : MethodName} {b2 : ByteArray} {nL2 mc ms idx : Nat} {ret2 : Option FieldType} {rm2 : Room} {As : List mj_Vt} {post1 : α → mj_M → Prop} (hC : mj_C g y cc nL ret rm) (hM : mj_Met (mj_l1 g) (mj_bs g) (mj_dd g) (mj_aa g) inj y2 b2 nL2 ret2 rm2 mc ms As M post1) (hY : mj_YS y2 b2 nL2 ret2 As.length) (hlk : Cond.methodLink y.cls idx y2 ∈ mj_tbl)
    (hstk : stk = As.reverse ++ st) (hcat : (st.map mj_cat).sum ≤ 8) (hrm : mj_rok rm rm2 nL2 mc ms k n) (hd : decode cc pc = .ok (.invokestatic idx, 3)) (kk : ∀ r M1, post1 r M1 → mj_X g (pc + 3) L ((inj r).toList ++ st) M1 (k + mc) (n + ms)) : mj_X g pc L stk M k n := by
  obtain ⟨p, l, e, R, s, m, args, below, meth, c, Q, base, D, A⟩ := g
  subst hstk
  intro H ls lc hR hl hS
  have hC' := hC
  obtain ⟨hx, hb, hml, hr, hown, hnm, rfl, hts, hK, hN, hZ, hbs, -⟩ := hC
  obtain ⟨⟨y1, y3, y4⟩, y5⟩ := hY
  obtain ⟨r1, r2, r3, r4⟩ := hrm
  have hst : (List.map mj_val (As.reverse ++ st)) = (As.map mj_val).reverse ++ st.map mj_val := by
    rw [List.map_append, List.map_reverse]
  rw [hst]
  refine mj_go (a := #[]) ?_ hl hS kk
  exact va_runS (g := F0 m pc ls ((As.map mj_val).reverse ++ st.map mj_val)) (rest := st.map mj_val) (nL := nL) ⟨hx, hb, hml, hown, hts⟩ hM ⟨callB_of As.length hts (mj_good y1) rfl r1 r2 (hts _ y3) (hts _ hlk) y4 r3, hts _ y5⟩ (As := As.map mj_val) ⟨mj_blind, fun U hU hW => ⟨rfl, mj_UofC hC' hR hS hU hW⟩⟩ rfl (by simp) (by rw [← hml]; exact hl.1) rfl (lv_room (by rw [mj_catL]; exact hcat)) hd r4
theorem mx_callSN {α : Type} {inj : α → Option mj_Vt} {y2 : MethodName} {host : String} {b2 : ByteArray} {nL2 mc ms idx : Nat} {ret2 : Option FieldType} {rm2 : Room} {As : List mj_Vt} {post1 : α → mj_M → Prop} (hC : mj_C g y cc nL ret rm) (hM : mj_Met (mj_l1 g) (mj_bs g) (mj_dd g) (mj_aa g) inj y2 b2 nL2 ret2 rm2 mc ms As M post1) (hY : mj_YS y2 b2 nL2 ret2 As.length) (hlk : Cond.methodLinkNest y.cls idx y2 host ∈ mj_nest)
    (hstk : stk = As.reverse ++ st) (hcat : (st.map mj_cat).sum ≤ 8) (hrm : mj_rok rm rm2 nL2 mc ms k n) (hd : decode cc pc = .ok (.invokestatic idx, 3)) (kk : ∀ r M1, post1 r M1 → mj_X g (pc + 3) L ((inj r).toList ++ st) M1 (k + mc) (n + ms)) : mj_X g pc L stk M k n := by
  obtain ⟨p, l, e, R, s, m, args, below, meth, c, Q, base, D, A⟩ := g
  subst hstk
  intro H ls lc hR hl hS
  have hC' := hC
  obtain ⟨hx, hb, hml, hr, hown, hnm, rfl, hts, hK, hN, hZ, hbs, -⟩ := hC
  obtain ⟨⟨y1, y3, y4⟩, y5⟩ := hY
  obtain ⟨r1, r2, r3, r4⟩ := hrm
  have hst : (List.map mj_val (As.reverse ++ st)) = (As.map mj_val).reverse ++ st.map mj_val := by
    rw [List.map_append, List.map_reverse]
  rw [hst]
  refine mj_go (a := #[]) ?_ hl hS kk
  exact va_runSN (g := F0 m pc ls ((As.map mj_val).reverse ++ st.map mj_val)) (rest := st.map mj_val) (nL := nL) ⟨hx, hb, hml, hown, hts⟩ hM ⟨va_cnB As.length hts (mj_good y1) rfl r1 r2 (hN _ hlk) (hts _ y3) y4 r3, hts _ y5, trivial⟩ (As := As.map mj_val) ⟨mj_blind, fun U hU hW => ⟨rfl, mj_UofC hC' hR hS hU hW⟩⟩ rfl (by simp) (by rw [← hml]; exact hl.1) rfl (lv_room (by rw [mj_catL]; exact hcat)) hd r4
theorem mx_callI {y2 : MethodName} {b2 : ByteArray} {nL2 mc ms idx a : Nat} {rm2 : Room} {As : List mj_Vt} {post1 : Unit → mj_M → Prop} (hC : mj_C g y cc nL ret rm) (hM : mj_Met (mj_l1 g) (mj_bs g) (mj_dd g) (mj_aa g) mj_jV y2 b2 nL2 none rm2 mc ms (vR a :: As) M post1) (hY : mj_YI y2 b2 nL2 As.length) (hlk : Cond.methodLink y.cls idx y2 ∈ mj_tbl) (ha : a ≠ 0)
    (hstk : stk = As.reverse ++ vR a :: st) (hcat : (st.map mj_cat).sum ≤ 8) (hrm : mj_rok rm rm2 nL2 mc ms k n) (hd : decode cc pc = .ok (.invokespecial idx, 3)) (kk : ∀ r M1, post1 r M1 → mj_X g (pc + 3) L st M1 (k + mc) (n + ms)) : mj_X g pc L stk M k n := by
  obtain ⟨p, l, e, R, s, m, args, below, meth, c, Q, base, D, A⟩ := g
  subst hstk
  intro H ls lc hR hl hS
  have hC' := hC
  obtain ⟨hx, hb, hml, hr, hown, hnm, rfl, hts, hK, hN, hZ, hbs, -⟩ := hC
  obtain ⟨⟨y1, y3, y4⟩, y5, y6⟩ := hY
  obtain ⟨r1, r2, r3, r4⟩ := hrm
  have hst : (List.map mj_val (As.reverse ++ vR a :: st)) = (As.map mj_val).reverse ++ .ref (a - 1) :: st.map mj_val := by
    rw [List.map_append, List.map_reverse, List.map_cons, show mj_val (vR a) = .ref (a - 1) from mj_rfs ha]
  rw [hst]
  refine mj_go (α := Unit) (inj := mj_jV) (post1 := post1) (st := st) (a := #[]) ?_ hl hS kk
  exact va_runI (g := F0 m pc ls ((As.map mj_val).reverse ++ .ref (a - 1) :: st.map mj_val)) (rest := st.map mj_val) (nL := nL) ⟨hx, hb, hml, hown, hts⟩ hM ⟨callB_of As.length hts (mj_good y1) rfl r1 r2 (hts _ y3) (hts _ hlk) y4 r3, y6, hts _ y5⟩ (As := As.map mj_val) ⟨mj_blind, fun U hU hW => ⟨by rw [List.map_cons, show mj_val (vR a) = .ref (a - 1) from mj_rfs ha], mj_UofC hC' hR hS hU hW⟩⟩ rfl (by simp) (by rw [← hml]; exact hl.1) rfl (lv_room (by rw [mj_catL]; exact hcat)) hd r4
theorem mx_callIN {y2 : MethodName} {host : String} {b2 : ByteArray} {nL2 mc ms idx a : Nat} {rm2 : Room} {As : List mj_Vt} {post1 : Unit → mj_M → Prop} (hC : mj_C g y cc nL ret rm) (hM : mj_Met (mj_l1 g) (mj_bs g) (mj_dd g) (mj_aa g) mj_jV y2 b2 nL2 none rm2 mc ms (vR a :: As) M post1) (hY : mj_YI y2 b2 nL2 As.length) (hlk : Cond.methodLinkNest y.cls idx y2 host ∈ mj_nest) (ha : a ≠ 0)
    (hstk : stk = As.reverse ++ vR a :: st) (hcat : (st.map mj_cat).sum ≤ 8) (hrm : mj_rok rm rm2 nL2 mc ms k n) (hd : decode cc pc = .ok (.invokespecial idx, 3)) (kk : ∀ r M1, post1 r M1 → mj_X g (pc + 3) L st M1 (k + mc) (n + ms)) : mj_X g pc L stk M k n := by
  obtain ⟨p, l, e, R, s, m, args, below, meth, c, Q, base, D, A⟩ := g
  subst hstk
  intro H ls lc hR hl hS
  have hC' := hC
  obtain ⟨hx, hb, hml, hr, hown, hnm, rfl, hts, hK, hN, hZ, hbs, -⟩ := hC
  obtain ⟨⟨y1, y3, y4⟩, y5, y6⟩ := hY
  obtain ⟨r1, r2, r3, r4⟩ := hrm
  have hst : (List.map mj_val (As.reverse ++ vR a :: st)) = (As.map mj_val).reverse ++ .ref (a - 1) :: st.map mj_val := by
    rw [List.map_append, List.map_reverse, List.map_cons, show mj_val (vR a) = .ref (a - 1) from mj_rfs ha]
  rw [hst]
  refine mj_go (α := Unit) (inj := mj_jV) (post1 := post1) (st := st) (a := #[]) ?_ hl hS kk
  exact va_runIN (g := F0 m pc ls ((As.map mj_val).reverse ++ .ref (a - 1) :: st.map mj_val)) (rest := st.map mj_val) (nL := nL) ⟨hx, hb, hml, hown, hts⟩ hM ⟨va_cnB As.length hts (mj_good y1) rfl r1 r2 (hN _ hlk) (hts _ y3) y4 r3, y6, hts _ y5⟩ (As := As.map mj_val) ⟨mj_blind, fun U hU hW => ⟨by rw [List.map_cons, show mj_val (vR a) = .ref (a - 1) from mj_rfs ha], mj_UofC hC' hR hS hU hW⟩⟩ rfl (by simp) (by rw [← hml]; exact hl.1) rfl (lv_room (by rw [mj_catL]; exact hcat)) hd r4
end MJCALL

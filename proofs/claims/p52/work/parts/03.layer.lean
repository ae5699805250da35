/-! THE LAYER. One abstract memory M for all objects and arrays that a run makes (addresses from 'base' on): what each address is, the lengths, the ints, the references (0: null), the longs, the next address. mj_X: from a place of a method, with these locals, this stack and this memory, the machine comes to the method's end. -/
/-- the arrays' classes (the second and the third: none), and the script: its cell, its length, its numbers -/
abbrev mj_AT : Type := ClassId × ClassId × ClassId × Nat × Nat × (Nat → Int32)
abbrev mj_M : Type := (Nat → Nat) × (Nat → Nat) × (Nat → Nat → Int32) × (Nat → Nat → Nat) × (Nat → Nat → Int64) × Nat
def mj_tag (M : mj_M) : Nat → Nat := M.1
def mj_len (M : mj_M) : Nat → Nat := M.2.1
def mj_i (M : mj_M) : Nat → Nat → Int32 := M.2.2.1
def mj_r (M : mj_M) : Nat → Nat → Nat := M.2.2.2.1
def mj_l (M : mj_M) : Nat → Nat → Int64 := M.2.2.2.2.1
def mj_nx (M : mj_M) : Nat := M.2.2.2.2.2
def mj_u1 {α : Type} (f : Nat → α) (a : Nat) (v : α) : Nat → α := fun x => if x = a then v else f x
def mj_u2 {α : Type} (f : Nat → Nat → α) (a k : Nat) (v : α) : Nat → Nat → α := fun x y => if x = a ∧ y = k then v else f x y
def mj_wi (M : mj_M) (a k : Nat) (v : Int32) : mj_M := (mj_tag M, mj_len M, mj_u2 (mj_i M) a k v, mj_r M, mj_l M, mj_nx M)
def mj_wr (M : mj_M) (a k : Nat) (v : Nat) : mj_M := (mj_tag M, mj_len M, mj_i M, mj_u2 (mj_r M) a k v, mj_l M, mj_nx M)
def mj_wl (M : mj_M) (a k : Nat) (v : Int64) : mj_M := (mj_tag M, mj_len M, mj_i M, mj_r M, mj_u2 (mj_l M) a k v, mj_nx M)
/-- a fresh object of the class ci -/
def mj_new (M : mj_M) (ci : Nat) : mj_M := (mj_u1 (mj_tag M) (mj_nx M) (ci + 1), mj_len M, mj_u1 (mj_i M) (mj_nx M) (fun _ => 0), mj_u1 (mj_r M) (mj_nx M) (fun _ => 0), mj_u1 (mj_l M) (mj_nx M) (fun _ => 0), mj_nx M + 1)
/-- a fresh array (101 ints, 102 longs, 103 booleans) -/
def mj_newa (M : mj_M) (t n : Nat) : mj_M := (mj_u1 (mj_tag M) (mj_nx M) t, mj_u1 (mj_len M) (mj_nx M) n, mj_u1 (mj_i M) (mj_nx M) (fun _ => 0), mj_r M, mj_u1 (mj_l M) (mj_nx M) (fun _ => 0), mj_nx M + 1)
/-- values: an int, a long, a reference -/
abbrev mj_Vt : Type := Int32 ⊕ (Int64 ⊕ Nat)
abbrev vI (x : Int32) : mj_Vt := .inl x
abbrev vL (x : Int64) : mj_Vt := .inr (.inl x)
abbrev vR (a : Nat) : mj_Vt := .inr (.inr a)
/-- a reference: 0 is null, a + 1 the cell a -/
def mj_rf (a : Nat) : Value := if a = 0 then .null else .ref (a - 1)
def mj_val : mj_Vt → Value
  | .inl x => .int x
  | .inr (.inl x) => .long x
  | .inr (.inr a) => mj_rf a
def mj_b (b : Bool) : Int32 := if b then 1 else 0
theorem mj_rf0 : mj_rf 0 = .null := rfl
theorem mj_rfs {a : Nat} (h : a ≠ 0) : mj_rf a = .ref (a - 1) := if_neg h
theorem mj_rf_or (a : Nat) : mj_rf a = .null ∨ ∃ b, mj_rf a = .ref b := by
  by_cases h : a = 0
  · exact Or.inl (by rw [h]; rfl)
  · exact Or.inr ⟨a - 1, mj_rfs h⟩
theorem mj_rfq (a : Nat) : mj_rf a = va_rf (if a = 0 then none else some (a - 1)) := by
  by_cases h : a = 0
  · subst h; rfl
  · rw [mj_rfs h, if_neg h]; rfl
theorem mj_rf_cat (a : Nat) : (mj_rf a).category = 1 := by
  rcases mj_rf_or a with h | ⟨b, h⟩ <;> rw [h] <;> rfl
def mj_cat : mj_Vt → Nat
  | .inr (.inl _) => 2
  | _ => 1
theorem mj_cat_eq (v : mj_Vt) : (mj_val v).category = mj_cat v := by
  rcases v with x | x | a
  · rfl
  · rfl
  · exact mj_rf_cat a
/-- what a field holds, by its type -/
def mj_fv (M : mj_M) (a k : Nat) : FieldType → Value
  | .long => .long (mj_l M a k)
  | .object _ => mj_rf (mj_r M a k)
  | .array _ => mj_rf (mj_r M a k)
  | _ => .int (mj_i M a k)
def mj_okt : FieldType → Bool
  | .long => true
  | .object _ => true
  | .array _ => true
  | .int => true
  | .boolean => true
  | _ => false
/-- the words that a method may use of the tables -/
def mj_tbl : List Cond := lw_tbl.filter goodWord
def mj_nest : List Cond := tables_1.filter (fun w => match w with | .methodLinkNest .. => true | _ => false)
theorem mj_w {w : Cond} (i : Nat) (h : lw_tbl[i]? = some w) (hg : goodWord w = true) : w ∈ mj_tbl := List.mem_filter.mpr ⟨List.mem_of_getElem? h, hg⟩
abbrev mj_Cs : Type := String × u_T × Nat × (Nat → FieldType)
def mj_cs : List mj_Cs := [(RX0, TX0, 4, tyX0), (RX1, TX1, 5, tyX1), (RX2, TX2, 3, tyX2), (RX3, TX3, 15, tyX3), (RX4, TX4, 6, tyX4), (RX5, TX5, 10, tyX5), (RX6, TX6, 7, tyX6), (RX7, TX7, 3, tyX7), (RX8, TX8, 8, tyX8), (RX9, TX9, 8, tyX9), (RX10, TX10, 8, tyX10), (RX11, TX11, 8, tyX11)]
def mj_cl : List vw_C := [(RX0, TX0, 4), (RX1, TX1, 5), (RX2, TX2, 3), (RX3, TX3, 15), (RX4, TX4, 6), (RX5, TX5, 10), (RX6, TX6, 7), (RX7, TX7, 3), (RX8, TX8, 8), (RX9, TX9, 8), (RX10, TX10, 8), (RX11, TX11, 8)]
theorem mj_cs_cl {ci : Nat} {C : String} {T : u_T} {N : Nat} {ty : Nat → FieldType} (h : mj_cs[ci]? = some (C, T, N, ty)) : mj_cl[ci]? = some (C, T, N) := by
  have e : mj_cl = mj_cs.map (fun q => (q.1, q.2.1, q.2.2.1)) := rfl
  rw [e, List.getElem?_map, h]
  rfl
/-- the heap holds the memory -/
def mj_R (base : Nat) (D : va_G) (A : mj_AT) (M : mj_M) (H : Heap) : Prop :=
  H.size + 1 = mj_nx M ∧ True ∧ base < mj_nx M ∧ (∀ a, mj_tag M a ≠ 0 → base < a ∧ a < mj_nx M) ∧
  (∀ (a ci : Nat) (q : mj_Cs), mj_tag M a = ci + 1 → mj_cs[ci]? = some q → t_OB (a - 1) (D.1 ci) q.2.2.1 (D.2 ci) H (fun k => mj_fv M a k (q.2.2.2 k))) ∧
  (∀ a, mj_tag M a = 101 → H[a - 1]? = some (vp_cell A.1 (mj_len M a, .inl (mj_i M a)))) ∧
  (∀ a, mj_tag M a = 102 → H[a - 1]? = some (vp_cell A.2.1 (mj_len M a, .inr (.inl (mj_l M a))))) ∧
  (∀ a, mj_tag M a = 103 → H[a - 1]? = some (vp_cell A.2.2.1 (mj_len M a, .inl (mj_i M a))))
def mj_ty3 (A : mj_AT) : List (ClassId × FieldType) := [(A.1, .int)]
/-- what nobody writes: the one String constant, and String's static -/
def mj_Z (A : mj_AT) (base : Nat) (U : State) (H : Heap) : Prop := (∃ adK adV : Nat → Nat, vk_S 1 [7] [[108, 116, 104, 114, 102, 111, 115]] adK adV (fun q => base ≤ q) U H ∧ vk_R "LeaseLand" 434 "lthrfos" (adK 0) U) ∧ va_Z "java/lang/String" "COMPACT_STRINGS" "Z" (.int 1) (fun q => base ≤ q) U H ∧ va_Nw (.castable "[I" "java/lang/Cloneable") U ∧ va_X A.2.2.2.1 A.2.2.2.2.1 A.2.2.2.2.2 U H ∧ ¬ base ≤ A.2.2.2.1
theorem mj_X.lt {b L : Nat} {xs : Nat → Int32} {U : State} {H : Heap} (h : va_X b L xs U H) : b < H.size := by
  obtain ⟨scr, h1, -⟩ := h
  exact (Array.getElem?_eq_some_iff.mp h1).1
theorem mj_Z.kept {A : mj_AT} {base : Nat} {U : State} {H H1 : Heap} (h : mj_Z A base U H) (hq : ∀ a : Nat, a < H.size → ¬ base ≤ a → H1[a]? = H[a]?) : mj_Z A base U H1 := by
  obtain ⟨⟨adK, adV, h1, h2⟩, h3, h4, h5, h6⟩ := h
  exact ⟨⟨adK, adV, h1.kept hq, h2⟩, h3.kept hq, h4, h5.kept (hq _ (mj_X.lt h5) h6), h6⟩
theorem mj_Z.warm {A : mj_AT} {base : Nat} {s U : State} {H : Heap} (hW : s.WarmedH U.vm) (h : mj_Z A base s H) : mj_Z A base U H := by
  obtain ⟨⟨adK, adV, h1, h2⟩, h3, h4, h5, h6⟩ := h
  exact ⟨⟨adK, adV, h1.moved hW.alike, h2.warm hW⟩, h3.moved hW.alike, va_Nw.warmC hW h4, h5.moved hW.alike, h6⟩
theorem mj_Z.same {A : mj_AT} {base : Nat} {u U : State} {H : Heap} (hv : U.vm = u.vm) (h : mj_Z A base u H) : mj_Z A base U H := by
  obtain ⟨⟨adK, adV, h1, h2⟩, h3, h4, h5, h6⟩ := h
  have ha : u.vm.Alike U.vm := by rw [hv]; exact Vm.Alike.refl _
  exact ⟨⟨adK, adV, h1.moved ha, h2.same hv⟩, h3.moved ha, va_Nw.same rfl hv.symm h4, h5.moved ha, h6⟩
/-- what a method finds -/
def mj_U (base : Nat) (D : va_G) (A : mj_AT) (M : mj_M) (U : State) : Prop := mj_R base D A M U.heap ∧ va_K D mj_cl (mj_ty3 A) U ∧ (∀ w ∈ mj_nest, va_Nw w U) ∧ mj_Z A base U U.heap ∧ base ≤ U.heap.size
/-- where a walk stands: program, launch, environment, room, the start's state, the method, arguments, frames below, its method and code, what is to be reached, base, places of fields, the arrays' classes -/
abbrev mj_G : Type := Program × Launch × Env × Room × State × MethodId × Array Value × List Frame × Method × Code × (State → Prop) × Nat × va_G × mj_AT
def mj_X : mj_G → Nat → List (Nat × mj_Vt) → List mj_Vt → mj_M → Nat → Nat → Prop
  | (p, l, e, R, s, m, args, below, meth, c, Q, base, D, A), pc, L, st, M, k, n => ∀ (H : Heap) (ls : Array Slot) (lc : List Loc), mj_R base D A M H → lv_has ls c.maxLocals (L.map (fun q => (q.1, mj_val q.2))) → va_S (fun q => base ≤ q) s.heap H lc → W p l e R s m args below meth c H lc k n Q (F0 m pc ls (st.map mj_val))
/-- what holds all along a walk of the method y -/
def mj_C : mj_G → MethodName → ByteArray → Nat → Option FieldType → Room → Prop
  | (p, l, e, R, s, m, args, below, meth, c, Q, base, D, A), y, cc, nL, ret, rm => p.tables.exec = Jvm.exec ∧ c.code = cc ∧ c.maxLocals = nL ∧ meth.sig.returnType = ret ∧ s.vm.findClass y.cls = some m.cls ∧ meth.name = y.name ∧ R = rm ∧ (∀ w ∈ mj_tbl, w.before args s = true) ∧ va_K D mj_cl (mj_ty3 A) s ∧ (∀ w ∈ mj_nest, va_Nw w s) ∧ mj_Z A base s s.heap ∧ base ≤ s.heap.size ∧ meth.locks = false
def mj_Qc {α : Type} (inj : α → Option mj_Vt) (base : Nat) (D : va_G) (A : mj_AT) (post : α → mj_M → Prop) : Array Value → State → Outcome → State → Prop := fun _ st oc t => (∃ (r : α) (M1 : mj_M), oc = .returned ((inj r).map mj_val) ∧ post r M1 ∧ mj_R base D A M1 t.heap) ∧ va_F (fun q => base ≤ q) st t
/-- what the walk is to reach: the method's end, with a result and a memory for which post holds; mc cells, ms slots -/
def mj_E {α : Type} : mj_G → (α → Option mj_Vt) → (α → mj_M → Prop) → Nat → Nat → Prop
  | (_, l, _, _, s, _, args, below, _, _, Q, base, D, A), inj, post, mc, ms => Q = MQ below (mj_Qc inj base D A post) args s mc ms (fun q => base ≤ q)
def mj_l1 : mj_G → Launch := fun g => g.2.1
def mj_bs : mj_G → Nat := fun g => g.2.2.2.2.2.2.2.2.2.2.2.1
def mj_dd : mj_G → va_G := fun g => g.2.2.2.2.2.2.2.2.2.2.2.2.1
def mj_aa : mj_G → mj_AT := fun g => g.2.2.2.2.2.2.2.2.2.2.2.2.2
/-- a method's contract at one start -/
def mj_Met {α : Type} (l : Launch) (base : Nat) (D : va_G) (A : mj_AT) (inj : α → Option mj_Vt) (y : MethodName) (cc : ByteArray) (nL : Nat) (ret : Option FieldType) (rm : Room) (mc ms : Nat) (av : List mj_Vt) (M : mj_M) (post : α → mj_M → Prop) : Prop :=
  Met l y (.code y cc nL ret :: mj_tbl) rm (va_Pc (av.map mj_val) (mj_U base D A M)) (mj_Qc inj base D A post) mc ms (fun q => base ≤ q)
def mj_jI : Int32 → Option mj_Vt := fun x => some (.inl x)
def mj_jB : Bool → Option mj_Vt := fun b => some (.inl (mj_b b))
def mj_jL : Int64 → Option mj_Vt := fun x => some (.inr (.inl x))
def mj_jR : Nat → Option mj_Vt := fun a => some (.inr (.inr a))
def mj_jV : Unit → Option mj_Vt := fun _ => none
/-- the locals at a method's start -/
def mj_av : Nat → List mj_Vt → List (Nat × mj_Vt)
  | _, [] => []
  | i, v :: vs => (i, v) :: mj_av (i + mj_cat v) vs
theorem mj_av_eq : ∀ (vs : List mj_Vt) (i : Nat), lv_args i (vs.map mj_val) = (mj_av i vs).map (fun q => (q.1, mj_val q.2)) := by
  intro vs
  induction vs with
  | nil => intro i; rfl
  | cons v vs ih =>
    intro i
    simp only [List.map_cons, lv_args, mj_av]
    congr 1
    rw [mj_cat_eq v, ← ih]
    rcases v with x | x | a <;> rfl
def mj_nS (vs : List mj_Vt) : Nat := (vs.map mj_cat).sum
theorem mj_nS_eq : ∀ (vs : List mj_Vt), (lg_sl (vs.map mj_val)).length = mj_nS vs := by
  intro vs
  induction vs with
  | nil => rfl
  | cons v vs ih =>
    simp only [lg_sl, List.map_cons, List.flatMap_cons, List.length_append, mj_nS, List.sum_cons] at ih ⊢
    rw [ih, mj_cat_eq v]
    rcases v with x | x | a <;> rfl
theorem mj_entry {α : Type} {l : Launch} {base : Nat} {D : va_G} {A : mj_AT} {inj : α → Option mj_Vt} {y : MethodName} {cc : ByteArray} {nL : Nat} {ret : Option FieldType} {rm : Room} {mc ms : Nat} {av : List mj_Vt} {M : mj_M} {post : α → mj_M → Prop}
    (hy : plainFor y = true) (hn : mj_nS av ≤ nL)
    (body : ∀ g : mj_G, mj_C g y cc nL ret rm → mj_E g inj post mc ms → mj_l1 g = l → mj_bs g = base → mj_dd g = D → mj_aa g = A → mj_X g 0 (mj_av 0 av) [] M 0 0) : mj_Met l base D A inj y cc nL ret rm mc ms av M post := by
  refine va_MetF (cc := cc) (maxL := nL) (ret := ret) hy rfl ?_
  intro p e s m args below meth c s₁ B hml hv
  obtain ⟨rfl, hR, hK, hN, hZ, hbs⟩ := hv
  have hts : ∀ w ∈ (Cond.code y cc nL ret :: mj_tbl), w.before _ s = true := atoms_spec (ws := Cond.code y cc nL ret :: mj_tbl) B.pre
  have hC : mj_C (p, l, e, (headSpec (Cond.code y cc nL ret :: mj_tbl) rm).room, s, m, (av.map mj_val).toArray, below, meth, c, MQ below (mj_Qc inj base D A post) (av.map mj_val).toArray s mc ms (fun q => base ≤ q), base, D, A) y cc nL ret rm :=
    ⟨B.exec, B.bytes, hml, B.returns, findClass_of_methodNamed B.named, (name_of_methodNamed B.named B.method).1, rfl, fun w hw => hts w (List.mem_cons_of_mem _ hw), hK, hN, hZ, hbs, B.notSynchronized⟩
  have hl := lv_entry (av.map mj_val) (n := nL) (by rw [mj_nS_eq]; exact hn)
  rw [lg_entry_eq]
  rw [mj_av_eq] at hl
  have hX := body _ hC rfl rfl rfl rfl rfl
  exact hX s.heap _ [] hR (by rw [hml]; exact hl) va_S.rf
section MJROWS
variable {g : mj_G} {y : MethodName} {cc : ByteArray} {nL : Nat} {ret : Option FieldType} {rm : Room} {pc : Nat} {L : List (Nat × mj_Vt)} {st : List mj_Vt} {M : mj_M} {k n : Nat}
theorem mx_iconst {v : Int32} {i : Int} (hC : mj_C g y cc nL ret rm) (hd : decode cc pc = .ok (.iconst i, 1)) (hv : Int32.ofInt i = v) (kk : mj_X g (pc + 1) L (vI v :: st) M k n) : mj_X g pc L st M k n := by
  obtain ⟨p, l, e, R, s, m, args, below, meth, c, Q, base, D, A⟩ := g
  exact fun H ls lc hR hl hS => lv_iconst hC.1 hC.2.1 hd hv (kk H ls lc hR hl hS)
theorem mx_bipush {v : Int32} {i : Int} (hC : mj_C g y cc nL ret rm) (hd : decode cc pc = .ok (.bipush i, 2)) (hv : (Int8.ofInt i).toInt32 = v) (kk : mj_X g (pc + 2) L (vI v :: st) M k n) : mj_X g pc L st M k n := by
  obtain ⟨p, l, e, R, s, m, args, below, meth, c, Q, base, D, A⟩ := g
  exact fun H ls lc hR hl hS => lv_bipush hC.1 hC.2.1 hd hv (kk H ls lc hR hl hS)
theorem mx_sipush {v : Int32} {i : Int} (hC : mj_C g y cc nL ret rm) (hd : decode cc pc = .ok (.sipush i, 3)) (hv : (Int16.ofInt i).toInt32 = v) (kk : mj_X g (pc + 3) L (vI v :: st) M k n) : mj_X g pc L st M k n := by
  obtain ⟨p, l, e, R, s, m, args, below, meth, c, Q, base, D, A⟩ := g
  exact fun H ls lc hR hl hS => lv_sipush hC.1 hC.2.1 hd hv (kk H ls lc hR hl hS)
theorem mx_lconst {v : Int64} {i : Fin 2} (hC : mj_C g y cc nL ret rm) (hd : decode cc pc = .ok (.lconst i, 1)) (hv : Int64.ofNat (i : Nat) = v) (kk : mj_X g (pc + 1) L (vL v :: st) M k n) : mj_X g pc L st M k n := by
  obtain ⟨p, l, e, R, s, m, args, below, meth, c, Q, base, D, A⟩ := g
  exact fun H ls lc hR hl hS => lv_lconst hC.1 hC.2.1 hd hv (kk H ls lc hR hl hS)
theorem mx_ldc {v : Int32} {i : Nat} (hC : mj_C g y cc nL ret rm) (hd : decode cc pc = .ok (.ldc i, 2)) (hw : Cond.constant y.cls i v ∈ mj_tbl) (kk : mj_X g (pc + 2) L (vI v :: st) M k n) : mj_X g pc L st M k n := by
  obtain ⟨p, l, e, R, s, m, args, below, meth, c, Q, base, D, A⟩ := g
  obtain ⟨hx, hb, hml, hr, hown, hnm, hRm, hts, -⟩ := hC
  exact fun H ls lc hR hl hS => lv_ldc hx hb hown (hts _ hw) hd (kk H ls lc hR hl hS)
theorem mx_ldc2 {v : Int64} {i : Nat} (hC : mj_C g y cc nL ret rm) (hd : decode cc pc = .ok (.ldc2_w i, 3)) (hw : Cond.constantLong y.cls i v ∈ mj_tbl) (kk : mj_X g (pc + 3) L (vL v :: st) M k n) : mj_X g pc L st M k n := by
  obtain ⟨p, l, e, R, s, m, args, below, meth, c, Q, base, D, A⟩ := g
  obtain ⟨hx, hb, hml, hr, hown, hnm, hRm, hts, -⟩ := hC
  exact fun H ls lc hR hl hS => lv_ldc2 hx hb hown (hts _ hw) hd (kk H ls lc hR hl hS)
theorem mx_null (hC : mj_C g y cc nL ret rm) (hd : decode cc pc = .ok (.aconst_null, 1)) (kk : mj_X g (pc + 1) L (vR 0 :: st) M k n) : mj_X g pc L st M k n := by
  obtain ⟨p, l, e, R, s, m, args, below, meth, c, Q, base, D, A⟩ := g
  exact fun H ls lc hR hl hS => lv_null hC.1 hC.2.1 hd (kk H ls lc hR hl hS)
theorem mj_lat {ls : Array Slot} {nL : Nat} (h : lv_has ls nL (L.map (fun q => (q.1, mj_val q.2)))) {j i : Nat} {v : mj_Vt} (hj : L[j]? = some (i, v)) : ls[i]? = some (.val (mj_val v)) := lv_at h j (by rw [List.getElem?_map, hj]; rfl)
theorem mx_iload_n {i : Fin 4} {j i' : Nat} {x : Int32} (hC : mj_C g y cc nL ret rm) (hd : decode cc pc = .ok (.iload_n i, 1)) (hi : (i : Nat) = i') (hj : L[j]? = some (i', vI x)) (kk : mj_X g (pc + 1) L (vI x :: st) M k n) : mj_X g pc L st M k n := by
  obtain ⟨p, l, e, R, s, m, args, below, meth, c, Q, base, D, A⟩ := g
  exact fun H ls lc hR hl hS => lv_iload_n hC.1 hC.2.1 hd hi (mj_lat hl hj) (kk H ls lc hR hl hS)
theorem mx_iload {j i : Nat} {x : Int32} (hC : mj_C g y cc nL ret rm) (hd : decode cc pc = .ok (.iload i, 2)) (hj : L[j]? = some (i, vI x)) (kk : mj_X g (pc + 2) L (vI x :: st) M k n) : mj_X g pc L st M k n := by
  obtain ⟨p, l, e, R, s, m, args, below, meth, c, Q, base, D, A⟩ := g
  exact fun H ls lc hR hl hS => lv_iload hC.1 hC.2.1 hd (mj_lat hl hj) (kk H ls lc hR hl hS)
theorem mx_lload_n {i : Fin 4} {j i' : Nat} {x : Int64} (hC : mj_C g y cc nL ret rm) (hd : decode cc pc = .ok (.lload_n i, 1)) (hi : (i : Nat) = i') (hj : L[j]? = some (i', vL x)) (kk : mj_X g (pc + 1) L (vL x :: st) M k n) : mj_X g pc L st M k n := by
  obtain ⟨p, l, e, R, s, m, args, below, meth, c, Q, base, D, A⟩ := g
  exact fun H ls lc hR hl hS => lv_lload_n hC.1 hC.2.1 hd hi (mj_lat hl hj) (kk H ls lc hR hl hS)
theorem mx_lload {j i : Nat} {x : Int64} (hC : mj_C g y cc nL ret rm) (hd : decode cc pc = .ok (.lload i, 2)) (hj : L[j]? = some (i, vL x)) (kk : mj_X g (pc + 2) L (vL x :: st) M k n) : mj_X g pc L st M k n := by
  obtain ⟨p, l, e, R, s, m, args, below, meth, c, Q, base, D, A⟩ := g
  exact fun H ls lc hR hl hS => lv_lload hC.1 hC.2.1 hd (mj_lat hl hj) (kk H ls lc hR hl hS)
theorem mx_aload_n {i : Fin 4} {j i' : Nat} {x : Nat} (hC : mj_C g y cc nL ret rm) (hd : decode cc pc = .ok (.aload_n i, 1)) (hi : (i : Nat) = i') (hj : L[j]? = some (i', vR x)) (kk : mj_X g (pc + 1) L (vR x :: st) M k n) : mj_X g pc L st M k n := by
  obtain ⟨p, l, e, R, s, m, args, below, meth, c, Q, base, D, A⟩ := g
  intro H ls lc hR hl hS
  have h1 := mj_lat hl hj
  have h2 := kk H ls lc hR hl hS
  rcases mj_rf_or x with h | ⟨b, h⟩
  · simp only [List.map_cons, mj_val, h] at h1 h2
    exact lv_aload_nN hC.1 hC.2.1 hd hi h1 h2
  · simp only [List.map_cons, mj_val, h] at h1 h2
    exact lv_aload_n hC.1 hC.2.1 hd hi h1 h2
theorem mx_aload {j i : Nat} {x : Nat} (hC : mj_C g y cc nL ret rm) (hd : decode cc pc = .ok (.aload i, 2)) (hj : L[j]? = some (i, vR x)) (kk : mj_X g (pc + 2) L (vR x :: st) M k n) : mj_X g pc L st M k n := by
  obtain ⟨p, l, e, R, s, m, args, below, meth, c, Q, base, D, A⟩ := g
  intro H ls lc hR hl hS
  have h1 := mj_lat hl hj
  have h2 := kk H ls lc hR hl hS
  rcases mj_rf_or x with h | ⟨b, h⟩
  · simp only [List.map_cons, mj_val, h] at h1 h2
    exact lv_aloadN hC.1 hC.2.1 hd h1 h2
  · simp only [List.map_cons, mj_val, h] at h1 h2
    exact lv_aload hC.1 hC.2.1 hd h1 h2
/-- a store: the local is the first of the list then, what it covered goes -/
def mj_st (i : Nat) (v : mj_Vt) (L : List (Nat × mj_Vt)) : List (Nat × mj_Vt) := (i, v) :: L.filter (fun q => !(q.1 == i) && (!(mj_cat v == 2 && q.1 == i + 1) && !(q.1 + 1 == i && mj_cat q.2 == 2)))
theorem mj_st1 {i : Nat} {v : mj_Vt} (hv : mj_cat v = 1) : (mj_st i v L).map (fun q => (q.1, mj_val q.2)) = (i, mj_val v) :: (L.map (fun q => (q.1, mj_val q.2))).filter (fun q => !(q.1 == i) && !(q.1 + 1 == i && q.2.category == 2)) := by
  simp only [mj_st, List.map_cons, List.filter_map, Function.comp_def, mj_cat_eq, hv]
  rfl
theorem mj_st2 {i : Nat} {v : mj_Vt} (hv : mj_cat v = 2) : (mj_st i v L).map (fun q => (q.1, mj_val q.2)) = (i, mj_val v) :: (L.map (fun q => (q.1, mj_val q.2))).filter (fun q => !(q.1 == i) && (!(q.1 == i + 1) && !(q.1 + 1 == i && q.2.category == 2))) := by
  simp only [mj_st, List.map_cons, List.filter_map, Function.comp_def, mj_cat_eq, hv]
  rfl
theorem mx_istore_n {i : Fin 4} {i' : Nat} {x : Int32} {L' : List (Nat × mj_Vt)} (hC : mj_C g y cc nL ret rm) (hd : decode cc pc = .ok (.istore_n i, 1)) (hi : (i : Nat) = i') (hn : i' < nL) (hL : mj_st i' (vI x) L = L') (kk : mj_X g (pc + 1) L' st M k n) : mj_X g pc L (vI x :: st) M k n := by
  obtain ⟨p, l, e, R, s, m, args, below, meth, c, Q, base, D, A⟩ := g
  subst hL
  exact fun H ls lc hR hl hS => lv_istore_n hC.1 hC.2.1 hd hi hl (by rw [hC.2.2.1]; exact hn) (mj_st1 (L := L) (v := vI x) rfl).symm (fun ls' hl' => kk H ls' lc hR hl' hS)
theorem mx_istore {i : Nat} {x : Int32} {L' : List (Nat × mj_Vt)} (hC : mj_C g y cc nL ret rm) (hd : decode cc pc = .ok (.istore i, 2)) (hn : i < nL) (hL : mj_st i (vI x) L = L') (kk : mj_X g (pc + 2) L' st M k n) : mj_X g pc L (vI x :: st) M k n := by
  obtain ⟨p, l, e, R, s, m, args, below, meth, c, Q, base, D, A⟩ := g
  subst hL
  exact fun H ls lc hR hl hS => lv_istore hC.1 hC.2.1 hd hl (by rw [hC.2.2.1]; exact hn) (mj_st1 (L := L) (v := vI x) rfl).symm (fun ls' hl' => kk H ls' lc hR hl' hS)
theorem mx_lstore_n {i : Fin 4} {i' : Nat} {x : Int64} {L' : List (Nat × mj_Vt)} (hC : mj_C g y cc nL ret rm) (hd : decode cc pc = .ok (.lstore_n i, 1)) (hi : (i : Nat) = i') (hn : i' + 1 < nL) (hL : mj_st i' (vL x) L = L') (kk : mj_X g (pc + 1) L' st M k n) : mj_X g pc L (vL x :: st) M k n := by
  obtain ⟨p, l, e, R, s, m, args, below, meth, c, Q, base, D, A⟩ := g
  subst hL
  exact fun H ls lc hR hl hS => lv_lstore_n hC.1 hC.2.1 hd hi hl (by rw [hC.2.2.1]; exact hn) (mj_st2 (L := L) (v := vL x) rfl).symm (fun ls' hl' => kk H ls' lc hR hl' hS)
theorem mx_lstore {i : Nat} {x : Int64} {L' : List (Nat × mj_Vt)} (hC : mj_C g y cc nL ret rm) (hd : decode cc pc = .ok (.lstore i, 2)) (hn : i + 1 < nL) (hL : mj_st i (vL x) L = L') (kk : mj_X g (pc + 2) L' st M k n) : mj_X g pc L (vL x :: st) M k n := by
  obtain ⟨p, l, e, R, s, m, args, below, meth, c, Q, base, D, A⟩ := g
  subst hL
  exact fun H ls lc hR hl hS => lv_lstore hC.1 hC.2.1 hd hl (by rw [hC.2.2.1]; exact hn) (mj_st2 (L := L) (v := vL x) rfl).symm (fun ls' hl' => kk H ls' lc hR hl' hS)
theorem mx_astore_n {i : Fin 4} {i' : Nat} {x : Nat} {L' : List (Nat × mj_Vt)} (hC : mj_C g y cc nL ret rm) (hd : decode cc pc = .ok (.astore_n i, 1)) (hi : (i : Nat) = i') (hn : i' < nL) (hL : mj_st i' (vR x) L = L') (kk : mj_X g (pc + 1) L' st M k n) : mj_X g pc L (vR x :: st) M k n := by
  obtain ⟨p, l, e, R, s, m, args, below, meth, c, Q, base, D, A⟩ := g
  subst hL
  intro H ls lc hR hl hS
  have h3 := mj_st1 (L := L) (i := i') (v := vR x) rfl
  have hn' : i' < c.maxLocals := by rw [hC.2.2.1]; exact hn
  rcases mj_rf_or x with h | ⟨b, h⟩
  · simp only [List.map_cons, mj_val, h] at h3 ⊢
    exact lv_astore_nN hC.1 hC.2.1 hd hi hl hn' h3.symm (fun ls' hl' => kk H ls' lc hR hl' hS)
  · simp only [List.map_cons, mj_val, h] at h3 ⊢
    exact lv_astore_n hC.1 hC.2.1 hd hi hl hn' h3.symm (fun ls' hl' => kk H ls' lc hR hl' hS)
theorem mx_astore {i : Nat} {x : Nat} {L' : List (Nat × mj_Vt)} (hC : mj_C g y cc nL ret rm) (hd : decode cc pc = .ok (.astore i, 2)) (hn : i < nL) (hL : mj_st i (vR x) L = L') (kk : mj_X g (pc + 2) L' st M k n) : mj_X g pc L (vR x :: st) M k n := by
  obtain ⟨p, l, e, R, s, m, args, below, meth, c, Q, base, D, A⟩ := g
  subst hL
  intro H ls lc hR hl hS
  have h3 := mj_st1 (L := L) (i := i) (v := vR x) rfl
  have hn' : i < c.maxLocals := by rw [hC.2.2.1]; exact hn
  rcases mj_rf_or x with h | ⟨b, h⟩
  · simp only [List.map_cons, mj_val, h] at h3 ⊢
    exact lv_astoreN hC.1 hC.2.1 hd hl hn' h3.symm (fun ls' hl' => kk H ls' lc hR hl' hS)
  · simp only [List.map_cons, mj_val, h] at h3 ⊢
    exact lv_astore hC.1 hC.2.1 hd hl hn' h3.symm (fun ls' hl' => kk H ls' lc hR hl' hS)
theorem mx_iinc {i j : Nat} {d : Int} {x v : Int32} {L' : List (Nat × mj_Vt)} (hC : mj_C g y cc nL ret rm) (hd : decode cc pc = .ok (.iinc i d, 3)) (hj : L[j]? = some (i, vI x)) (hv : x + Int32.ofInt d = v) (hn : i < nL) (hL : mj_st i (vI v) L = L') (kk : mj_X g (pc + 3) L' st M k n) : mj_X g pc L st M k n := by
  obtain ⟨p, l, e, R, s, m, args, below, meth, c, Q, base, D, A⟩ := g
  subst hL
  exact fun H ls lc hR hl hS => lv_iinc (k := j) hC.1 hC.2.1 hd hl (by rw [List.getElem?_map, hj]; rfl) hv (by rw [hC.2.2.1]; exact hn) (mj_st1 (L := L) (v := vI v) rfl).symm (fun ls' hl' => kk H ls' lc hR hl' hS)
/-- fewer locals, in another order -/
theorem mx_sub {L' : List (Nat × mj_Vt)} (is : List Nat) (hL : is.filterMap (fun i => L[i]?) = L') (kk : mj_X g pc L' st M k n) : mj_X g pc L st M k n := by
  obtain ⟨p, l, e, R, s, m, args, below, meth, c, Q, base, D, A⟩ := g
  subst hL
  intro H ls lc hR hl hS
  refine kk H ls lc hR ⟨hl.1, hl.2.1, fun q hq => ?_⟩ hS
  obtain ⟨q0, h0, rfl⟩ := List.mem_map.mp hq
  obtain ⟨i, -, hi⟩ := List.mem_filterMap.mp h0
  exact hl.2.2 _ (List.mem_map.mpr ⟨q0, List.mem_of_getElem? hi, rfl⟩)
theorem mx_widen {k' n' : Nat} (h1 : k ≤ k') (h2 : n ≤ n') (kk : mj_X g pc L st M k' n') : mj_X g pc L st M k n := by
  obtain ⟨p, l, e, R, s, m, args, below, meth, c, Q, base, D, A⟩ := g
  exact fun H ls lc hR hl hS => W.widen h1 h2 (kk H ls lc hR hl hS)
theorem mx_goto {off : Int} {tgt : Nat} (hC : mj_C g y cc nL ret rm) (hd : decode cc pc = .ok (.goto off, 3)) (ht : (pc : Int) + off = (tgt : Int)) (kk : mj_X g tgt L st M k n) : mj_X g pc L st M k n := by
  obtain ⟨p, l, e, R, s, m, args, below, meth, c, Q, base, D, A⟩ := g
  exact fun H ls lc hR hl hS => lv_goto hC.1 hC.2.1 hd ht (kk H ls lc hR hl hS)
theorem mx_pop {v : mj_Vt} (hC : mj_C g y cc nL ret rm) (hd : decode cc pc = .ok (.pop, 1)) (hv : mj_cat v = 1) (kk : mj_X g (pc + 1) L st M k n) : mj_X g pc L (v :: st) M k n := by
  obtain ⟨p, l, e, R, s, m, args, below, meth, c, Q, base, D, A⟩ := g
  exact fun H ls lc hR hl hS => lv_pop hC.1 hC.2.1 hd (by rw [mj_cat_eq]; exact hv) (kk H ls lc hR hl hS)
theorem mx_dup {v : mj_Vt} (hC : mj_C g y cc nL ret rm) (hd : decode cc pc = .ok (.dup, 1)) (hv : mj_cat v = 1) (kk : mj_X g (pc + 1) L (v :: v :: st) M k n) : mj_X g pc L (v :: st) M k n := by
  obtain ⟨p, l, e, R, s, m, args, below, meth, c, Q, base, D, A⟩ := g
  exact fun H ls lc hR hl hS => lv_dup hC.1 hC.2.1 hd (by rw [mj_cat_eq]; exact hv) (kk H ls lc hR hl hS)
theorem mx_dup2 {v w : mj_Vt} (hC : mj_C g y cc nL ret rm) (hd : decode cc pc = .ok (.dup2, 1)) (hv : mj_cat v = 1) (hw : mj_cat w = 1) (kk : mj_X g (pc + 1) L (v :: w :: v :: w :: st) M k n) : mj_X g pc L (v :: w :: st) M k n := by
  obtain ⟨p, l, e, R, s, m, args, below, meth, c, Q, base, D, A⟩ := g
  exact fun H ls lc hR hl hS => lv_dup2_11 hC.1 hC.2.1 hd (by rw [mj_cat_eq]; exact hv) (by rw [mj_cat_eq]; exact hw) (kk H ls lc hR hl hS)
theorem mx_dup_x1 {v w : mj_Vt} (hC : mj_C g y cc nL ret rm) (hd : decode cc pc = .ok (.dup_x1, 1)) (hv : mj_cat v = 1) (hw : mj_cat w = 1) (kk : mj_X g (pc + 1) L (v :: w :: v :: st) M k n) : mj_X g pc L (v :: w :: st) M k n := by
  obtain ⟨p, l, e, R, s, m, args, below, meth, c, Q, base, D, A⟩ := g
  exact fun H ls lc hR hl hS => lv_dup_x1 hC.1 hC.2.1 hd (by rw [mj_cat_eq]; exact hv) (by rw [mj_cat_eq]; exact hw) (kk H ls lc hR hl hS)
theorem mx_ifnull {a : Nat} {off : Int} {tgt : Nat} (hC : mj_C g y cc nL ret rm) (hd : decode cc pc = .ok (.ifnull off, 3)) (ht : (pc : Int) + off = (tgt : Int)) (kt : a = 0 → mj_X g tgt L st M k n) (kf : ¬ a = 0 → mj_X g (pc + 3) L st M k n) : mj_X g pc L (vR a :: st) M k n := by
  obtain ⟨p, l, e, R, s, m, args, below, meth, c, Q, base, D, A⟩ := g
  intro H ls lc hR hl hS
  by_cases h : a = 0
  · subst h
    exact lv_ifnullN hC.1 hC.2.1 hd ht (kt rfl H ls lc hR hl hS)
  · simp only [List.map_cons, mj_val, mj_rfs h]
    exact lv_ifnull hC.1 hC.2.1 hd (kf h H ls lc hR hl hS)
theorem mx_ifnonnull {a : Nat} {off : Int} {tgt : Nat} (hC : mj_C g y cc nL ret rm) (hd : decode cc pc = .ok (.ifnonnull off, 3)) (ht : (pc : Int) + off = (tgt : Int)) (kt : ¬ a = 0 → mj_X g tgt L st M k n) (kf : a = 0 → mj_X g (pc + 3) L st M k n) : mj_X g pc L (vR a :: st) M k n := by
  obtain ⟨p, l, e, R, s, m, args, below, meth, c, Q, base, D, A⟩ := g
  intro H ls lc hR hl hS
  by_cases h : a = 0
  · subst h
    exact lv_ifnonnullN hC.1 hC.2.1 hd (kf rfl H ls lc hR hl hS)
  · simp only [List.map_cons, mj_val, mj_rfs h]
    exact lv_ifnonnull hC.1 hC.2.1 hd ht (kt h H ls lc hR hl hS)
theorem mj_rq {a b : Nat} : ((if a = 0 then none else some (a - 1) : Option Nat) = (if b = 0 then none else some (b - 1))) ↔ a = b := by
  by_cases h : a = 0 <;> by_cases h2 : b = 0 <;> simp [h, h2] <;> omega
theorem mx_acmpeq {a b : Nat} {off : Int} {tgt : Nat} (hC : mj_C g y cc nL ret rm) (hd : decode cc pc = .ok (.if_acmp .eq off, 3)) (ht : (pc : Int) + off = (tgt : Int)) (kt : a = b → mj_X g tgt L st M k n) (kf : ¬ a = b → mj_X g (pc + 3) L st M k n) : mj_X g pc L (vR b :: vR a :: st) M k n := by
  obtain ⟨p, l, e, R, s, m, args, below, meth, c, Q, base, D, A⟩ := g
  intro H ls lc hR hl hS
  simp only [List.map_cons, mj_val, mj_rfq]
  exact lv_acmp_eq hC.1 hC.2.1 hd ht (fun h => kt (mj_rq.mp h) H ls lc hR hl hS) (fun h => kf (fun q => h (mj_rq.mpr q)) H ls lc hR hl hS)
theorem mx_acmpne {a b : Nat} {off : Int} {tgt : Nat} (hC : mj_C g y cc nL ret rm) (hd : decode cc pc = .ok (.if_acmp .ne off, 3)) (ht : (pc : Int) + off = (tgt : Int)) (kt : ¬ a = b → mj_X g tgt L st M k n) (kf : a = b → mj_X g (pc + 3) L st M k n) : mj_X g pc L (vR b :: vR a :: st) M k n := by
  obtain ⟨p, l, e, R, s, m, args, below, meth, c, Q, base, D, A⟩ := g
  intro H ls lc hR hl hS
  simp only [List.map_cons, mj_val, mj_rfq]
  exact lv_acmp_ne hC.1 hC.2.1 hd ht (fun h => kt (fun q => h (mj_rq.mpr q)) H ls lc hR hl hS) (fun h => kf (mj_rq.mp h) H ls lc hR hl hS)
theorem mx_iadd {x y' : Int32} (hC : mj_C g y cc nL ret rm) (hd : decode cc pc = .ok (.iadd, 1)) (kk : mj_X g (pc + 1) L (vI (x + y') :: st) M k n) : mj_X g pc L (vI y' :: vI x :: st) M k n := by
  obtain ⟨p, l, e, R, s, m, args, below, meth, c, Q, base, D, A⟩ := g
  exact fun H ls lc hR hl hS => lv_iadd hC.1 hC.2.1 hd (kk H ls lc hR hl hS)
theorem mx_isub {x y' : Int32} (hC : mj_C g y cc nL ret rm) (hd : decode cc pc = .ok (.isub, 1)) (kk : mj_X g (pc + 1) L (vI (x - y') :: st) M k n) : mj_X g pc L (vI y' :: vI x :: st) M k n := by
  obtain ⟨p, l, e, R, s, m, args, below, meth, c, Q, base, D, A⟩ := g
  exact fun H ls lc hR hl hS => lv_isub hC.1 hC.2.1 hd (kk H ls lc hR hl hS)
theorem mx_imul {x y' : Int32} (hC : mj_C g y cc nL ret rm) (hd : decode cc pc = .ok (.imul, 1)) (kk : mj_X g (pc + 1) L (vI (x * y') :: st) M k n) : mj_X g pc L (vI y' :: vI x :: st) M k n := by
  obtain ⟨p, l, e, R, s, m, args, below, meth, c, Q, base, D, A⟩ := g
  exact fun H ls lc hR hl hS => lv_imul hC.1 hC.2.1 hd (kk H ls lc hR hl hS)
theorem mx_iand {x y' : Int32} (hC : mj_C g y cc nL ret rm) (hd : decode cc pc = .ok (.iand, 1)) (kk : mj_X g (pc + 1) L (vI (x &&& y') :: st) M k n) : mj_X g pc L (vI y' :: vI x :: st) M k n := by
  obtain ⟨p, l, e, R, s, m, args, below, meth, c, Q, base, D, A⟩ := g
  exact fun H ls lc hR hl hS => lv_iand hC.1 hC.2.1 hd (kk H ls lc hR hl hS)
theorem mx_ior {x y' : Int32} (hC : mj_C g y cc nL ret rm) (hd : decode cc pc = .ok (.ior, 1)) (kk : mj_X g (pc + 1) L (vI (x ||| y') :: st) M k n) : mj_X g pc L (vI y' :: vI x :: st) M k n := by
  obtain ⟨p, l, e, R, s, m, args, below, meth, c, Q, base, D, A⟩ := g
  exact fun H ls lc hR hl hS => lv_ior hC.1 hC.2.1 hd (kk H ls lc hR hl hS)
theorem mx_ixor {x y' : Int32} (hC : mj_C g y cc nL ret rm) (hd : decode cc pc = .ok (.ixor, 1)) (kk : mj_X g (pc + 1) L (vI (x ^^^ y') :: st) M k n) : mj_X g pc L (vI y' :: vI x :: st) M k n := by
  obtain ⟨p, l, e, R, s, m, args, below, meth, c, Q, base, D, A⟩ := g
  exact fun H ls lc hR hl hS => lv_ixor hC.1 hC.2.1 hd (kk H ls lc hR hl hS)
theorem mx_ishl {x y' : Int32} (hC : mj_C g y cc nL ret rm) (hd : decode cc pc = .ok (.ishl, 1)) (kk : mj_X g (pc + 1) L (vI (x <<< (y' &&& 31)) :: st) M k n) : mj_X g pc L (vI y' :: vI x :: st) M k n := by
  obtain ⟨p, l, e, R, s, m, args, below, meth, c, Q, base, D, A⟩ := g
  exact fun H ls lc hR hl hS => lv_ishl hC.1 hC.2.1 hd (kk H ls lc hR hl hS)
theorem mx_ishr {x y' : Int32} (hC : mj_C g y cc nL ret rm) (hd : decode cc pc = .ok (.ishr, 1)) (kk : mj_X g (pc + 1) L (vI (x >>> (y' &&& 31)) :: st) M k n) : mj_X g pc L (vI y' :: vI x :: st) M k n := by
  obtain ⟨p, l, e, R, s, m, args, below, meth, c, Q, base, D, A⟩ := g
  exact fun H ls lc hR hl hS => lv_ishr hC.1 hC.2.1 hd (kk H ls lc hR hl hS)
theorem mx_idiv {x y' : Int32} (hC : mj_C g y cc nL ret rm) (hd : decode cc pc = .ok (.idiv, 1)) (hne : ¬ y' = 0) (kk : mj_X g (pc + 1) L (vI (x / y') :: st) M k n) : mj_X g pc L (vI y' :: vI x :: st) M k n := by
  obtain ⟨p, l, e, R, s, m, args, below, meth, c, Q, base, D, A⟩ := g
  exact fun H ls lc hR hl hS => lv_idiv hC.1 hC.2.1 hd hne (kk H ls lc hR hl hS)
theorem mx_iushr {x y' : Int32} (hC : mj_C g y cc nL ret rm) (hd : decode cc pc = .ok (.iushr, 1)) (kk : mj_X g (pc + 1) L (vI ((x.toUInt32 >>> (y'.toUInt32 &&& Int32.toUInt32 31)).toInt32) :: st) M k n) : mj_X g pc L (vI y' :: vI x :: st) M k n := by
  obtain ⟨p, l, e, R, s, m, args, below, meth, c, Q, base, D, A⟩ := g
  exact fun H ls lc hR hl hS => lv_iushr hC.1 hC.2.1 hd rfl (kk H ls lc hR hl hS)
theorem mx_ladd {x y' : Int64} (hC : mj_C g y cc nL ret rm) (hd : decode cc pc = .ok (.ladd, 1)) (kk : mj_X g (pc + 1) L (vL (x + y') :: st) M k n) : mj_X g pc L (vL y' :: vL x :: st) M k n := by
  obtain ⟨p, l, e, R, s, m, args, below, meth, c, Q, base, D, A⟩ := g
  exact fun H ls lc hR hl hS => lv_ladd hC.1 hC.2.1 hd (kk H ls lc hR hl hS)
theorem mx_lsub {x y' : Int64} (hC : mj_C g y cc nL ret rm) (hd : decode cc pc = .ok (.lsub, 1)) (kk : mj_X g (pc + 1) L (vL (x - y') :: st) M k n) : mj_X g pc L (vL y' :: vL x :: st) M k n := by
  obtain ⟨p, l, e, R, s, m, args, below, meth, c, Q, base, D, A⟩ := g
  exact fun H ls lc hR hl hS => lv_lsub hC.1 hC.2.1 hd (kk H ls lc hR hl hS)
theorem mx_lmul {x y' : Int64} (hC : mj_C g y cc nL ret rm) (hd : decode cc pc = .ok (.lmul, 1)) (kk : mj_X g (pc + 1) L (vL (x * y') :: st) M k n) : mj_X g pc L (vL y' :: vL x :: st) M k n := by
  obtain ⟨p, l, e, R, s, m, args, below, meth, c, Q, base, D, A⟩ := g
  exact fun H ls lc hR hl hS => lv_lmul hC.1 hC.2.1 hd (kk H ls lc hR hl hS)
theorem mx_land {x y' : Int64} (hC : mj_C g y cc nL ret rm) (hd : decode cc pc = .ok (.land, 1)) (kk : mj_X g (pc + 1) L (vL (x &&& y') :: st) M k n) : mj_X g pc L (vL y' :: vL x :: st) M k n := by
  obtain ⟨p, l, e, R, s, m, args, below, meth, c, Q, base, D, A⟩ := g
  exact fun H ls lc hR hl hS => lv_land hC.1 hC.2.1 hd (kk H ls lc hR hl hS)
theorem mx_lor {x y' : Int64} (hC : mj_C g y cc nL ret rm) (hd : decode cc pc = .ok (.lor, 1)) (kk : mj_X g (pc + 1) L (vL (x ||| y') :: st) M k n) : mj_X g pc L (vL y' :: vL x :: st) M k n := by
  obtain ⟨p, l, e, R, s, m, args, below, meth, c, Q, base, D, A⟩ := g
  exact fun H ls lc hR hl hS => lv_lor hC.1 hC.2.1 hd (kk H ls lc hR hl hS)
theorem mx_lxor {x y' : Int64} (hC : mj_C g y cc nL ret rm) (hd : decode cc pc = .ok (.lxor, 1)) (kk : mj_X g (pc + 1) L (vL (x ^^^ y') :: st) M k n) : mj_X g pc L (vL y' :: vL x :: st) M k n := by
  obtain ⟨p, l, e, R, s, m, args, below, meth, c, Q, base, D, A⟩ := g
  exact fun H ls lc hR hl hS => lv_lxor hC.1 hC.2.1 hd (kk H ls lc hR hl hS)
theorem mx_ldiv {x y' : Int64} (hC : mj_C g y cc nL ret rm) (hd : decode cc pc = .ok (.ldiv, 1)) (hne : ¬ y' = 0) (kk : mj_X g (pc + 1) L (vL (x / y') :: st) M k n) : mj_X g pc L (vL y' :: vL x :: st) M k n := by
  obtain ⟨p, l, e, R, s, m, args, below, meth, c, Q, base, D, A⟩ := g
  exact fun H ls lc hR hl hS => lv_ldiv hC.1 hC.2.1 hd hne (kk H ls lc hR hl hS)
theorem mx_lrem {x y' : Int64} (hC : mj_C g y cc nL ret rm) (hd : decode cc pc = .ok (.lrem, 1)) (hne : ¬ y' = 0) (kk : mj_X g (pc + 1) L (vL (x - x / y' * y') :: st) M k n) : mj_X g pc L (vL y' :: vL x :: st) M k n := by
  obtain ⟨p, l, e, R, s, m, args, below, meth, c, Q, base, D, A⟩ := g
  exact fun H ls lc hR hl hS => lv_lrem hC.1 hC.2.1 hd hne (kk H ls lc hR hl hS)
theorem mx_lneg {x : Int64} (hC : mj_C g y cc nL ret rm) (hd : decode cc pc = .ok (.lneg, 1)) (kk : mj_X g (pc + 1) L (vL (-x) :: st) M k n) : mj_X g pc L (vL x :: st) M k n := by
  obtain ⟨p, l, e, R, s, m, args, below, meth, c, Q, base, D, A⟩ := g
  exact fun H ls lc hR hl hS => lv_lneg hC.1 hC.2.1 hd (kk H ls lc hR hl hS)
theorem mx_lshl {x : Int64} {y' : Int32} (hC : mj_C g y cc nL ret rm) (hd : decode cc pc = .ok (.lshl, 1)) (kk : mj_X g (pc + 1) L (vL (x <<< (y'.toInt64 &&& 63)) :: st) M k n) : mj_X g pc L (vI y' :: vL x :: st) M k n := by
  obtain ⟨p, l, e, R, s, m, args, below, meth, c, Q, base, D, A⟩ := g
  exact fun H ls lc hR hl hS => lv_lshl hC.1 hC.2.1 hd rfl (kk H ls lc hR hl hS)
theorem mx_lshr {x : Int64} {y' : Int32} (hC : mj_C g y cc nL ret rm) (hd : decode cc pc = .ok (.lshr, 1)) (kk : mj_X g (pc + 1) L (vL (x >>> (y'.toInt64 &&& 63)) :: st) M k n) : mj_X g pc L (vI y' :: vL x :: st) M k n := by
  obtain ⟨p, l, e, R, s, m, args, below, meth, c, Q, base, D, A⟩ := g
  exact fun H ls lc hR hl hS => lv_lshr hC.1 hC.2.1 hd rfl (kk H ls lc hR hl hS)
theorem mx_i2l {x : Int32} (hC : mj_C g y cc nL ret rm) (hd : decode cc pc = .ok (.i2l, 1)) (kk : mj_X g (pc + 1) L (vL x.toInt64 :: st) M k n) : mj_X g pc L (vI x :: st) M k n := by
  obtain ⟨p, l, e, R, s, m, args, below, meth, c, Q, base, D, A⟩ := g
  exact fun H ls lc hR hl hS => lv_i2l hC.1 hC.2.1 hd rfl (kk H ls lc hR hl hS)
theorem mx_l2i {x : Int64} (hC : mj_C g y cc nL ret rm) (hd : decode cc pc = .ok (.l2i, 1)) (kk : mj_X g (pc + 1) L (vI x.toInt32 :: st) M k n) : mj_X g pc L (vL x :: st) M k n := by
  obtain ⟨p, l, e, R, s, m, args, below, meth, c, Q, base, D, A⟩ := g
  exact fun H ls lc hR hl hS => lv_l2i hC.1 hC.2.1 hd rfl (kk H ls lc hR hl hS)
theorem mx_i2c {x : Int32} (hC : mj_C g y cc nL ret rm) (hd : decode cc pc = .ok (.i2c, 1)) (kk : mj_X g (pc + 1) L (vI (x.toUInt32 % 65536).toInt32 :: st) M k n) : mj_X g pc L (vI x :: st) M k n := by
  obtain ⟨p, l, e, R, s, m, args, below, meth, c, Q, base, D, A⟩ := g
  exact fun H ls lc hR hl hS => lv_i2c hC.1 hC.2.1 hd rfl (kk H ls lc hR hl hS)
theorem mx_lcmp {x y' : Int64} (hC : mj_C g y cc nL ret rm) (hd : decode cc pc = .ok (.lcmp, 1)) (kk : mj_X g (pc + 1) L (vI (lg_cmp x y') :: st) M k n) : mj_X g pc L (vL y' :: vL x :: st) M k n := by
  obtain ⟨p, l, e, R, s, m, args, below, meth, c, Q, base, D, A⟩ := g
  exact fun H ls lc hR hl hS => W.lcmp hC.1 hC.2.1 hd (kk H ls lc hR hl hS)
theorem mx_ifeq {x : Int32} {off : Int} {tgt : Nat} (hC : mj_C g y cc nL ret rm) (hd : decode cc pc = .ok (.ifCond .eq off, 3)) (ht : (pc : Int) + off = (tgt : Int)) (kt : x = 0 → mj_X g tgt L st M k n) (kf : ¬ x = 0 → mj_X g (pc + 3) L st M k n) : mj_X g pc L (vI x :: st) M k n := by
  obtain ⟨p, l, e, R, s, m, args, below, meth, c, Q, base, D, A⟩ := g
  exact fun H ls lc hR hl hS => lv_if_eq hC.1 hC.2.1 hd ht (fun h => kt h H ls lc hR hl hS) (fun h => kf h H ls lc hR hl hS)
theorem mx_ifne {x : Int32} {off : Int} {tgt : Nat} (hC : mj_C g y cc nL ret rm) (hd : decode cc pc = .ok (.ifCond .ne off, 3)) (ht : (pc : Int) + off = (tgt : Int)) (kt : ¬ x = 0 → mj_X g tgt L st M k n) (kf : x = 0 → mj_X g (pc + 3) L st M k n) : mj_X g pc L (vI x :: st) M k n := by
  obtain ⟨p, l, e, R, s, m, args, below, meth, c, Q, base, D, A⟩ := g
  exact fun H ls lc hR hl hS => lv_if_ne hC.1 hC.2.1 hd ht (fun h => kt h H ls lc hR hl hS) (fun h => kf h H ls lc hR hl hS)
theorem mx_iflt {x : Int32} {off : Int} {tgt : Nat} (hC : mj_C g y cc nL ret rm) (hd : decode cc pc = .ok (.ifCond .lt off, 3)) (ht : (pc : Int) + off = (tgt : Int)) (kt : x < 0 → mj_X g tgt L st M k n) (kf : ¬ x < 0 → mj_X g (pc + 3) L st M k n) : mj_X g pc L (vI x :: st) M k n := by
  obtain ⟨p, l, e, R, s, m, args, below, meth, c, Q, base, D, A⟩ := g
  exact fun H ls lc hR hl hS => lv_if_lt hC.1 hC.2.1 hd ht (fun h => kt h H ls lc hR hl hS) (fun h => kf h H ls lc hR hl hS)
theorem mx_ifge {x : Int32} {off : Int} {tgt : Nat} (hC : mj_C g y cc nL ret rm) (hd : decode cc pc = .ok (.ifCond .ge off, 3)) (ht : (pc : Int) + off = (tgt : Int)) (kt : 0 ≤ x → mj_X g tgt L st M k n) (kf : ¬ 0 ≤ x → mj_X g (pc + 3) L st M k n) : mj_X g pc L (vI x :: st) M k n := by
  obtain ⟨p, l, e, R, s, m, args, below, meth, c, Q, base, D, A⟩ := g
  exact fun H ls lc hR hl hS => lv_if_ge hC.1 hC.2.1 hd ht (fun h => kt h H ls lc hR hl hS) (fun h => kf h H ls lc hR hl hS)
theorem mx_ifgt {x : Int32} {off : Int} {tgt : Nat} (hC : mj_C g y cc nL ret rm) (hd : decode cc pc = .ok (.ifCond .gt off, 3)) (ht : (pc : Int) + off = (tgt : Int)) (kt : 0 < x → mj_X g tgt L st M k n) (kf : ¬ 0 < x → mj_X g (pc + 3) L st M k n) : mj_X g pc L (vI x :: st) M k n := by
  obtain ⟨p, l, e, R, s, m, args, below, meth, c, Q, base, D, A⟩ := g
  exact fun H ls lc hR hl hS => lv_if_gt hC.1 hC.2.1 hd ht (fun h => kt h H ls lc hR hl hS) (fun h => kf h H ls lc hR hl hS)
theorem mx_ifle {x : Int32} {off : Int} {tgt : Nat} (hC : mj_C g y cc nL ret rm) (hd : decode cc pc = .ok (.ifCond .le off, 3)) (ht : (pc : Int) + off = (tgt : Int)) (kt : x ≤ 0 → mj_X g tgt L st M k n) (kf : ¬ x ≤ 0 → mj_X g (pc + 3) L st M k n) : mj_X g pc L (vI x :: st) M k n := by
  obtain ⟨p, l, e, R, s, m, args, below, meth, c, Q, base, D, A⟩ := g
  exact fun H ls lc hR hl hS => lv_if_le hC.1 hC.2.1 hd ht (fun h => kt h H ls lc hR hl hS) (fun h => kf h H ls lc hR hl hS)
theorem mx_icmpeq {x y' : Int32} {off : Int} {tgt : Nat} (hC : mj_C g y cc nL ret rm) (hd : decode cc pc = .ok (.if_icmp .eq off, 3)) (ht : (pc : Int) + off = (tgt : Int)) (kt : x = y' → mj_X g tgt L st M k n) (kf : ¬ x = y' → mj_X g (pc + 3) L st M k n) : mj_X g pc L (vI y' :: vI x :: st) M k n := by
  obtain ⟨p, l, e, R, s, m, args, below, meth, c, Q, base, D, A⟩ := g
  exact fun H ls lc hR hl hS => lv_icmp_eq hC.1 hC.2.1 hd ht (fun h => kt h H ls lc hR hl hS) (fun h => kf h H ls lc hR hl hS)
theorem mx_icmpne {x y' : Int32} {off : Int} {tgt : Nat} (hC : mj_C g y cc nL ret rm) (hd : decode cc pc = .ok (.if_icmp .ne off, 3)) (ht : (pc : Int) + off = (tgt : Int)) (kt : ¬ x = y' → mj_X g tgt L st M k n) (kf : x = y' → mj_X g (pc + 3) L st M k n) : mj_X g pc L (vI y' :: vI x :: st) M k n := by
  obtain ⟨p, l, e, R, s, m, args, below, meth, c, Q, base, D, A⟩ := g
  exact fun H ls lc hR hl hS => lv_icmp_ne hC.1 hC.2.1 hd ht (fun h => kt h H ls lc hR hl hS) (fun h => kf h H ls lc hR hl hS)
theorem mx_icmplt {x y' : Int32} {off : Int} {tgt : Nat} (hC : mj_C g y cc nL ret rm) (hd : decode cc pc = .ok (.if_icmp .lt off, 3)) (ht : (pc : Int) + off = (tgt : Int)) (kt : x < y' → mj_X g tgt L st M k n) (kf : ¬ x < y' → mj_X g (pc + 3) L st M k n) : mj_X g pc L (vI y' :: vI x :: st) M k n := by
  obtain ⟨p, l, e, R, s, m, args, below, meth, c, Q, base, D, A⟩ := g
  exact fun H ls lc hR hl hS => lv_icmp_lt hC.1 hC.2.1 hd ht (fun h => kt h H ls lc hR hl hS) (fun h => kf h H ls lc hR hl hS)
theorem mx_icmpge {x y' : Int32} {off : Int} {tgt : Nat} (hC : mj_C g y cc nL ret rm) (hd : decode cc pc = .ok (.if_icmp .ge off, 3)) (ht : (pc : Int) + off = (tgt : Int)) (kt : y' ≤ x → mj_X g tgt L st M k n) (kf : ¬ y' ≤ x → mj_X g (pc + 3) L st M k n) : mj_X g pc L (vI y' :: vI x :: st) M k n := by
  obtain ⟨p, l, e, R, s, m, args, below, meth, c, Q, base, D, A⟩ := g
  exact fun H ls lc hR hl hS => lv_icmp_ge hC.1 hC.2.1 hd ht (fun h => kt h H ls lc hR hl hS) (fun h => kf h H ls lc hR hl hS)
theorem mx_icmpgt {x y' : Int32} {off : Int} {tgt : Nat} (hC : mj_C g y cc nL ret rm) (hd : decode cc pc = .ok (.if_icmp .gt off, 3)) (ht : (pc : Int) + off = (tgt : Int)) (kt : y' < x → mj_X g tgt L st M k n) (kf : ¬ y' < x → mj_X g (pc + 3) L st M k n) : mj_X g pc L (vI y' :: vI x :: st) M k n := by
  obtain ⟨p, l, e, R, s, m, args, below, meth, c, Q, base, D, A⟩ := g
  exact fun H ls lc hR hl hS => lv_icmp_gt hC.1 hC.2.1 hd ht (fun h => kt h H ls lc hR hl hS) (fun h => kf h H ls lc hR hl hS)
theorem mx_icmple {x y' : Int32} {off : Int} {tgt : Nat} (hC : mj_C g y cc nL ret rm) (hd : decode cc pc = .ok (.if_icmp .le off, 3)) (ht : (pc : Int) + off = (tgt : Int)) (kt : x ≤ y' → mj_X g tgt L st M k n) (kf : ¬ x ≤ y' → mj_X g (pc + 3) L st M k n) : mj_X g pc L (vI y' :: vI x :: st) M k n := by
  obtain ⟨p, l, e, R, s, m, args, below, meth, c, Q, base, D, A⟩ := g
  exact fun H ls lc hR hl hS => lv_icmp_le hC.1 hC.2.1 hd ht (fun h => kt h H ls lc hR hl hS) (fun h => kf h H ls lc hR hl hS)
theorem mx_ifeqB {b : Bool} {off : Int} {tgt : Nat} (hC : mj_C g y cc nL ret rm) (hd : decode cc pc = .ok (.ifCond .eq off, 3)) (ht : (pc : Int) + off = (tgt : Int)) (kt : ¬ b = true → mj_X g tgt L st M k n) (kf : b = true → mj_X g (pc + 3) L st M k n) : mj_X g pc L (vI (mj_b b) :: st) M k n := by
  refine mx_ifeq hC hd ht (fun h => kt ?_) (fun h => kf ?_)
  · intro q; rw [q] at h; exact absurd h (by decide)
  · cases b
    · exact absurd rfl h
    · rfl
theorem mx_ifneB {b : Bool} {off : Int} {tgt : Nat} (hC : mj_C g y cc nL ret rm) (hd : decode cc pc = .ok (.ifCond .ne off, 3)) (ht : (pc : Int) + off = (tgt : Int)) (kt : b = true → mj_X g tgt L st M k n) (kf : ¬ b = true → mj_X g (pc + 3) L st M k n) : mj_X g pc L (vI (mj_b b) :: st) M k n := by
  refine mx_ifne hC hd ht (fun h => kt ?_) (fun h => kf ?_)
  · cases b
    · exact absurd rfl h
    · rfl
  · intro q; rw [q] at h; exact absurd h (by decide)
theorem mx_irem {x y' : Int32} (hC : mj_C g y cc nL ret rm) (hd : decode cc pc = .ok (.irem, 1)) (hne : ¬ y' = 0) (kk : mj_X g (pc + 1) L (vI (x - x / y' * y') :: st) M k n) : mj_X g pc L (vI y' :: vI x :: st) M k n := by
  obtain ⟨p, l, e, R, s, m, args, below, meth, c, Q, base, D, A⟩ := g
  exact fun H ls lc hR hl hS => lv_irem hC.1 hC.2.1 hd hne (kk H ls lc hR hl hS)
theorem mx_slen {b Ln : Nat} {xs : Nat → Int32} (hC : mj_C g y cc nL ret rm) (hA : (mj_aa g).2.2.2 = (b, Ln, xs)) (hd : decode cc pc = .ok (.arraylength, 1)) (kk : mj_X g (pc + 1) L (vI (Int32.ofNat Ln) :: st) M k n) : mj_X g pc L (vR (b + 1) :: st) M k n := by
  obtain ⟨p, l, e, R, s, m, args, below, meth, c, Q, base, D, A0, A1, A2, b0, L0, xs0⟩ := g
  have hA' : (b0, L0, xs0) = (b, Ln, xs) := hA
  cases hA'
  have hZ := hC.2.2.2.2.2.2.2.2.2.2.1
  intro H ls lc hR hl hS
  exact va_slen (A := fun q => base ≤ q) hC.1 hC.2.1 hZ.2.2.2.1 (mj_X.lt hZ.2.2.2.1) hZ.2.2.2.2 hS hd (kk H ls lc hR hl hS)
theorem mx_sld {i : Int32} {b Ln : Nat} {xs : Nat → Int32} (hC : mj_C g y cc nL ret rm) (hA : (mj_aa g).2.2.2 = (b, Ln, xs)) (hin : vp_in i Ln) (hd : decode cc pc = .ok (.iaload, 1)) (kk : mj_X g (pc + 1) L (vI (xs i.toNatClampNeg) :: st) M k n) : mj_X g pc L (vI i :: vR (b + 1) :: st) M k n := by
  obtain ⟨p, l, e, R, s, m, args, below, meth, c, Q, base, D, A0, A1, A2, b0, L0, xs0⟩ := g
  have hA' : (b0, L0, xs0) = (b, Ln, xs) := hA
  cases hA'
  have hZ := hC.2.2.2.2.2.2.2.2.2.2.1
  intro H ls lc hR hl hS
  exact va_sld (A := fun q => base ≤ q) hC.1 hC.2.1 hZ.2.2.2.1 (mj_X.lt hZ.2.2.2.1) hZ.2.2.2.2 hS hin hd (kk H ls lc hR hl hS)
end MJROWS

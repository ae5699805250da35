/-! THE LAYER, second part: fields, arrays, making, returning, calling. -/
/-- a class by its number: its name, fields, types; its words are in the tables -/
def mj_KC (ci : Nat) (q : mj_Cs) : Prop := mj_cs[ci]? = some q ∧ (∀ w ∈ u_ws q.1 q.2.1 q.2.2.1, w ∈ mj_tbl) ∧ (∀ k, k < q.2.2.1 → parseFieldDescriptor (q.2.1 k).2.2.1 = some (q.2.2.2 k)) ∧ (∀ a, a < q.2.2.1 → ∀ b, b < q.2.2.1 → a ≠ b → (q.2.1 a).2.1 ≠ (q.2.1 b).2.1) ∧ (∀ k, k < q.2.2.1 → mj_okt (q.2.2.2 k) = true)
/-- a field of a class, linked from a place of another -/
def mj_F (ci j : Nat) (ft : FieldType) (fin : Bool) (own : String) (idx : Nat) : Prop := ∃ q : mj_Cs, mj_KC ci q ∧ j < q.2.2.1 ∧ q.2.2.2 j = ft ∧ (q.2.1 j).2.2.2 = fin ∧ (q.2.1 j).1 = q.1 ∧ Cond.fieldLink own idx q.1 (q.2.1 j).2.1 (q.2.1 j).2.2.1 ∈ mj_tbl
theorem mj_R.tag0 {base : Nat} {D : va_G} {A : mj_AT} {M : mj_M} {H : Heap} (h : mj_R base D A M H) {a t : Nat} (ht : mj_tag M a = t) (h0 : t ≠ 0) : a ≠ 0 ∧ base ≤ a - 1 ∧ a - 1 < H.size := by
  obtain ⟨h1, h2, h3, h4, -⟩ := h
  have := h4 a (by rw [ht]; exact h0)
  exact ⟨by omega, by omega, by omega⟩
/-- a memory that differs from another at one address alone -/
def mj_off (M M1 : mj_M) (a : Nat) : Prop := mj_tag M1 = mj_tag M ∧ mj_len M1 = mj_len M ∧ mj_nx M1 = mj_nx M ∧ ∀ b, b ≠ a → mj_i M1 b = mj_i M b ∧ mj_r M1 b = mj_r M b ∧ mj_l M1 b = mj_l M b
theorem mj_fv_off {M M1 : mj_M} {b : Nat} (h : mj_i M1 b = mj_i M b ∧ mj_r M1 b = mj_r M b ∧ mj_l M1 b = mj_l M b) (k : Nat) (t : FieldType) : mj_fv M1 b k t = mj_fv M b k t := by
  obtain ⟨h1, h2, h3⟩ := h
  cases t <;> simp only [mj_fv, h1, h2, h3]
theorem mj_u2_ne {α : Type} (f : Nat → Nat → α) {a b k : Nat} {v : α} (h : b ≠ a) : mj_u2 f a k v b = f b := by
  funext y
  simp [mj_u2, h]
theorem mj_u1_ne {α : Type} (f : Nat → α) {a b : Nat} {v : α} (h : b ≠ a) : mj_u1 f a v b = f b := if_neg h
theorem mj_u1_at {α : Type} (f : Nat → α) {a : Nat} {v : α} : mj_u1 f a v a = v := if_pos rfl
theorem mj_off_wi (M : mj_M) (a k : Nat) (v : Int32) : mj_off M (mj_wi M a k v) a := ⟨rfl, rfl, rfl, fun _ h => ⟨mj_u2_ne _ h, rfl, rfl⟩⟩
theorem mj_off_wr (M : mj_M) (a k : Nat) (v : Nat) : mj_off M (mj_wr M a k v) a := ⟨rfl, rfl, rfl, fun _ h => ⟨rfl, mj_u2_ne _ h, rfl⟩⟩
theorem mj_off_wl (M : mj_M) (a k : Nat) (v : Int64) : mj_off M (mj_wl M a k v) a := ⟨rfl, rfl, rfl, fun _ h => ⟨rfl, rfl, mj_u2_ne _ h⟩⟩
theorem mj_R.upd {base : Nat} {D : va_G} {A : mj_AT} {M M1 : mj_M} {H H1 : Heap} {a : Nat} (h : mj_R base D A M H) (ha : a ≠ 0) (ho : mj_off M M1 a) (hz : H1.size = H.size) (oq : ∀ q : Nat, q ≠ a - 1 → H1[q]? = H[q]?)
    (c1 : ∀ (ci : Nat) (q : mj_Cs), mj_tag M a = ci + 1 → mj_cs[ci]? = some q → t_OB (a - 1) (D.1 ci) q.2.2.1 (D.2 ci) H1 (fun k => mj_fv M1 a k (q.2.2.2 k)))
    (c2 : mj_tag M a = 101 → H1[a - 1]? = some (vp_cell A.1 (mj_len M a, .inl (mj_i M1 a)))) (c3 : mj_tag M a = 102 → H1[a - 1]? = some (vp_cell A.2.1 (mj_len M a, .inr (.inl (mj_l M1 a))))) (c4 : mj_tag M a = 103 → H1[a - 1]? = some (vp_cell A.2.2.1 (mj_len M a, .inl (mj_i M1 a)))) : mj_R base D A M1 H1 := by
  obtain ⟨h1, h2, h3, h4, h5, h6, h7, h8⟩ := h
  obtain ⟨o1, o2, o3, o4⟩ := ho
  have hq : ∀ b, mj_tag M b ≠ 0 → b ≠ a → H1[b - 1]? = H[b - 1]? := fun b hb e => oq _ (by have := (h4 b hb).1; omega)
  refine ⟨by rw [hz, h1, o3], h2, by rw [o3]; exact h3, fun b hb => by rw [o1] at hb; rw [o3]; exact h4 b hb, fun b ci q hb hq' => ?_, fun b hb => ?_, fun b hb => ?_, fun b hb => ?_⟩ <;> rw [o1] at hb <;> by_cases e : b = a
  · subst e; exact c1 ci q hb hq'
  · have := (h5 b ci q hb hq').kept (hq b (by omega) e)
    exact this.to (fun k _ => (mj_fv_off (o4 b e) k _).symm)
  · subst e; rw [o2]; exact c2 hb
  · rw [hq b (by omega) e, h6 b hb, o2, (o4 b e).1]
  · subst e; rw [o2]; exact c3 hb
  · rw [hq b (by omega) e, h7 b hb, o2, (o4 b e).2.2]
  · subst e; rw [o2]; exact c4 hb
  · rw [hq b (by omega) e, h8 b hb, o2, (o4 b e).1]
/-- the values of the fields behind a store -/
def mj_put (M M1 : mj_M) (a j : Nat) (ft : FieldType) (v : Value) : Prop := ∀ (i : Nat) (t : FieldType), (i = j → t = ft) → mj_fv M1 a i t = if i = j then v else mj_fv M a i t
theorem mj_put_wi {M : mj_M} {a j : Nat} {x : Int32} : mj_put M (mj_wi M a j x) a j .int (.int x) := by
  intro i t h
  by_cases e : i = j
  · rw [if_pos e, h e]
    simp [mj_fv, mj_wi, mj_i, mj_u2, e]
  · rw [if_neg e]
    cases t <;> simp [mj_fv, mj_wi, mj_i, mj_r, mj_l, mj_u2, e]
theorem mj_put_wz {M : mj_M} {a j : Nat} {x : Int32} : mj_put M (mj_wi M a j x) a j .boolean (.int x) := by
  intro i t h
  by_cases e : i = j
  · rw [if_pos e, h e]
    simp [mj_fv, mj_wi, mj_i, mj_u2, e]
  · rw [if_neg e]
    cases t <;> simp [mj_fv, mj_wi, mj_i, mj_r, mj_l, mj_u2, e]
theorem mj_put_wl {M : mj_M} {a j : Nat} {x : Int64} : mj_put M (mj_wl M a j x) a j .long (.long x) := by
  intro i t h
  by_cases e : i = j
  · rw [if_pos e, h e]
    simp [mj_fv, mj_wl, mj_l, mj_u2, e]
  · rw [if_neg e]
    cases t <;> simp [mj_fv, mj_wl, mj_i, mj_r, mj_l, mj_u2, e]
theorem mj_put_wr {M : mj_M} {a j b : Nat} {C : String} : mj_put M (mj_wr M a j b) a j (.object C) (mj_rf b) := by
  intro i t h
  by_cases e : i = j
  · rw [if_pos e, h e]
    simp [mj_fv, mj_wr, mj_r, mj_u2, e]
  · rw [if_neg e]
    cases t <;> simp [mj_fv, mj_wr, mj_i, mj_r, mj_l, mj_u2, e]
theorem mj_put_wa {M : mj_M} {a j b : Nat} {C : FieldType} : mj_put M (mj_wr M a j b) a j (.array C) (mj_rf b) := by
  intro i t h
  by_cases e : i = j
  · rw [if_pos e, h e]
    simp [mj_fv, mj_wr, mj_r, mj_u2, e]
  · rw [if_neg e]
    cases t <;> simp [mj_fv, mj_wr, mj_i, mj_r, mj_l, mj_u2, e]
theorem mj_fitR (a : Nat) (C : String) : narrow (.object C) (mj_rf a) = mj_rf a ∧ fits (.object C) (mj_rf a) = true := by
  rcases mj_rf_or a with h | ⟨b, h⟩ <;> rw [h] <;> exact ⟨rfl, rfl⟩
theorem mj_fitA (a : Nat) (C : FieldType) : narrow (.array C) (mj_rf a) = mj_rf a ∧ fits (.array C) (mj_rf a) = true := by
  rcases mj_rf_or a with h | ⟨b, h⟩ <;> rw [h] <;> exact ⟨rfl, rfl⟩
theorem mj_fitZ (b : Bool) : narrow .boolean (.int (mj_b b)) = .int (mj_b b) ∧ fits .boolean (.int (mj_b b)) = true := by
  cases b <;> exact ⟨rfl, rfl⟩
section MJMEM
variable {g : mj_G} {y : MethodName} {cc : ByteArray} {nL : Nat} {ret : Option FieldType} {rm : Room} {pc : Nat} {L : List (Nat × mj_Vt)} {st : List mj_Vt} {M : mj_M} {k n : Nat}
theorem mx_get {a ci j idx : Nat} {ft : FieldType} {fin : Bool} {v : mj_Vt} (hC : mj_C g y cc nL ret rm) (hF : mj_F ci j ft fin y.cls idx) (ht : mj_tag M a = ci + 1) (hv : mj_val v = mj_fv M a j ft) (hd : decode cc pc = .ok (.getfield idx, 3)) (kk : mj_X g (pc + 3) L (v :: st) M k n) : mj_X g pc L (vR a :: st) M k n := by
  obtain ⟨p, l, e, R, s, m, args, below, meth, c, Q, base, D, A⟩ := g
  obtain ⟨hx, hb, hml, hr, hown, hnm, hRm, hts, hK, -⟩ := hC
  obtain ⟨⟨C, T, N, ty⟩, ⟨f1, f2, f3, f4, f5⟩, f6, f7, f8, f9, f10⟩ := hF
  intro H ls lc hR hl hS
  have hob := hR.2.2.2.2.1 a ci _ ht f1
  have ha := (hR.tag0 ht (by omega)).1
  obtain ⟨cell, q1, q2, q3, q4⟩ := hob
  obtain ⟨hSl, hfc, kC, hkC, hkind⟩ := hK.1 ci _ (mj_cs_cl f1)
  obtain ⟨cf, kf, fi, f, hi, hsl⟩ := hSl j f6
  dsimp only at f2 f3 f4 f6 f7 f8 f9 f10 q4 hi hsl hfc
  rw [f9] at hi
  have h3 := kk H ls lc hR hl hS
  simp only [List.map_cons] at h3 ⊢
  rw [show mj_val (vR a) = .ref (a - 1) from mj_rfs ha]
  refine W.getf hx hb hown (hts _ f10) hi (u_facts hfc hkC (u_lays hts f2 f6) (by rw [f9]; exact hi)).1 q1 (by rw [q3]; exact fun h => by cases h) (v := mj_val v) ?_ rfl rfl hd h3
  rw [hsl, q4 j f6, hv, ← f7]
theorem mx_put {a ci j idx : Nat} {ft : FieldType} {fin : Bool} {v : mj_Vt} {M1 : mj_M} (hC : mj_C g y cc nL ret rm) (hF : mj_F ci j ft fin y.cls idx) (ht : mj_tag M a = ci + 1) (hfin : fin = false ∨ (y.name = "<init>" ∧ (mj_cl[ci]?).map (fun q => q.1) = some y.cls)) (hnf : narrow ft (mj_val v) = mj_val v ∧ fits ft (mj_val v) = true)
    (ho : mj_off M M1 a) (hp : mj_put M M1 a j ft (mj_val v)) (hd : decode cc pc = .ok (.putfield idx, 3)) (kk : mj_X g (pc + 3) L st M1 k n) : mj_X g pc L (v :: vR a :: st) M k n := by
  obtain ⟨p, l, e, R, s, m, args, below, meth, c, Q, base, D, A⟩ := g
  obtain ⟨hx, hb, hml, hr, hown, hnm, hRm, hts, hK, -⟩ := hC
  obtain ⟨⟨C, T, N, ty⟩, ⟨f1, f2, f3, f4, f5⟩, f6, f7, f8, f9, f10⟩ := hF
  intro H ls lc hR hl hS
  have hob := hR.2.2.2.2.1 a ci _ ht f1
  have ha := hR.tag0 ht (by omega)
  have hcl := mj_cs_cl f1
  have hap := va_apart (own := y.cls) hts f2 ty f3 f4 hK hcl
  obtain ⟨cell, q1, q2, q3, q4⟩ := hob
  obtain ⟨hSl, hfc, kC, hkC, hkind⟩ := hK.1 ci _ hcl
  obtain ⟨cf, kf, fi, f, hi, hsl⟩ := hSl j f6
  dsimp only at f2 f3 f4 f6 f7 f8 f9 f10 q4 hi hsl hfc hap
  have hty : parseFieldDescriptor (T j).2.2.1 = some ft := by rw [← f7]; exact f3 j f6
  have hst := (u_facts hfc hkC (u_lays hts f2 f6) hi).1
  have hlay := hts _ (f2 _ (u_in_lay f6))
  unfold u_lay at hlay
  have hlt : f.slot < cell.slots.size := by rw [hsl]; exact k2_hasslot (q4 j f6)
  have hlink := hts _ f10
  have hiC : s.fieldFound? C (T j).2.1 (T j).2.2.1 = some (cf, kf, fi, f) := by rw [← f9]; exact hi
  have go : ∀ H' : Heap, H'[a - 1]? = some (cell.setSlot f.slot (mj_val v)) → H'.size = H.size → (∀ q, q ≠ a - 1 → H'[q]? = H[q]?) → W p l e R s m args below meth c H' (lc ++ [⟨a - 1, f.slot⟩]) k n Q (F0 m (pc + 3) ls (st.map mj_val)) := by
    intro H' e1 e2 e3
    refine kk H' ls _ (hR.upd ha.1 ho e2 e3 ?_ ?_ ?_ ?_) hl (hS.put e2 e3 ha.2.1)
    · intro ci' q hci hq
      have : ci' = ci := by omega
      subst this
      cases f1.symm.trans hq
      refine t_OB.to (V := updV (fun k => mj_fv M a k (ty k)) j (mj_val v)) ⟨_, e1, q2, q3, by rw [hsl]; exact t_set q4 hap f6 (mj_val v)⟩ (fun i _ => ?_)
      dsimp only
      rw [hp i (ty i) (fun z => by rw [z]; exact f7)]
      rfl
    · intro h
      have h2 := (List.getElem?_eq_some_iff.mp f1).1
      have h3 : mj_cs.length = 12 := rfl
      omega
    · intro h
      have h2 := (List.getElem?_eq_some_iff.mp f1).1
      have h3 : mj_cs.length = 12 := rfl
      omega
    · intro h
      have h2 := (List.getElem?_eq_some_iff.mp f1).1
      have h3 : mj_cs.length = 12 := rfl
      omega
  simp only [List.map_cons]
  rw [show mj_val (vR a) = .ref (a - 1) from mj_rfs ha.1]
  cases fin with
  | false =>
    rw [if_neg (by rw [f8]; decide)] at hlay
    have h6 := u_store hfc hkC hkind hlay hi hty hnf.1 hnf.2
    exact W.putK hx hb (f := f) ⟨hown, hlink, ⟨_, _, _, hiC⟩, hst⟩ (by rw [q2]; exact h6) q1 q3 hlt rfl rfl hd go
  | true =>
    rw [if_pos f8] at hlay
    obtain ⟨hin, hcn⟩ := hfin.resolve_left (by decide)
    rw [hcl] at hcn
    have hcn : C = y.cls := Option.some.inj hcn
    have hcf : m.cls = cf := by
      obtain ⟨_, _, c', _, _, _, -, -, hf', -, -, -, hown2, -⟩ := Cond.laysFinal_spec hlay
      have e1 : c' = cf := by have := hi.symm.trans hf'; simp at this; exact this.1.symm
      rw [f9, hcn] at hown2
      rw [← e1]; exact Option.some.inj (hown.symm.trans hown2)
    have h6 := u_fits hfc hkC hkind (Or.inr hlay) hi hty hnf.1 hnf.2
    exact W.putFinK hx hb hown hlink hiC hst hcf (hnm.trans hin) (by rw [q2]; exact h6) q1 q3 hlt rfl rfl hd go
theorem mj_ar3 {s : State} {D : va_G} {A : mj_AT} (hK : va_K D mj_cl (mj_ty3 A) s) : ArrOfT s A.1 .int ∧ True := ⟨(hK.2 0 _ rfl).1, trivial⟩
theorem mx_iaload {a : Nat} {i : Int32} (hC : mj_C g y cc nL ret rm) (ht : mj_tag M a = 101) (hin : vp_in i (mj_len M a)) (hd : decode cc pc = .ok (.iaload, 1)) (kk : mj_X g (pc + 1) L (vI (mj_i M a i.toNatClampNeg) :: st) M k n) : mj_X g pc L (vI i :: vR a :: st) M k n := by
  obtain ⟨p, l, e, R, s, m, args, below, meth, c, Q, base, D, A⟩ := g
  obtain ⟨hx, hb, hml, hr, hown, hnm, hRm, hts, hK, -⟩ := hC
  intro H ls lc hR hl hS
  have hc := hR.2.2.2.2.2.1 a ht
  have hlt : i.toNatClampNeg < mj_len M a := Nat.not_le.mp fun q => hin (Or.inr q)
  have h3 := kk H ls lc hR hl hS
  simp only [List.map_cons] at h3 ⊢
  rw [show mj_val (vR a) = .ref (a - 1) from mj_rfs (hR.tag0 ht (by omega)).1]
  exact W.iald (v := .int (mj_i M a i.toNatClampNeg)) hx hb hc ((mj_ar3 hK).1 _ _) (fun q => by cases q) (by show ¬ (i < 0 ∨ (arrV _ _ _).slots.size ≤ _); rw [arrV_size]; exact hin) (by show (arrV _ _ _).slots[_]? = _; rw [arrV_read _ _ hlt]) rfl rfl hd h3
theorem mx_alen {a : Nat} (hC : mj_C g y cc nL ret rm) (ht : mj_tag M a = 101) (hd : decode cc pc = .ok (.arraylength, 1)) (kk : mj_X g (pc + 1) L (vI (Int32.ofNat (mj_len M a)) :: st) M k n) : mj_X g pc L (vR a :: st) M k n := by
  obtain ⟨p, l, e, R, s, m, args, below, meth, c, Q, base, D, A⟩ := g
  obtain ⟨hx, hb, hml, hr, hown, hnm, hRm, hts, hK, -⟩ := hC
  intro H ls lc hR hl hS
  have hc := hR.2.2.2.2.2.1 a ht
  have h3 := kk H ls lc hR hl hS
  simp only [List.map_cons] at h3 ⊢
  rw [show mj_val (vR a) = .ref (a - 1) from mj_rfs (hR.tag0 ht (by omega)).1]
  exact W.alen (n := Int32.ofNat (mj_len M a)) hx hb hc ((mj_ar3 hK).1 _ _) (by rw [vp_cell_i, arrV_size] <;> rfl) rfl rfl hd h3
theorem mj_arrV_st (cA : ClassId) (N : Nat) (f : Nat → Value) (j : Nat) (v : Value) : (arrV cA N f).setSlot j v = arrV cA N (updV f j v) := arrV_store cA N j f v
theorem mx_iastore {a : Nat} {i x : Int32} (hC : mj_C g y cc nL ret rm) (ht : mj_tag M a = 101) (hin : vp_in i (mj_len M a)) (hd : decode cc pc = .ok (.iastore, 1)) (kk : mj_X g (pc + 1) L st (mj_wi M a i.toNatClampNeg x) k n) : mj_X g pc L (vI x :: vI i :: vR a :: st) M k n := by
  obtain ⟨p, l, e, R, s, m, args, below, meth, c, Q, base, D, A⟩ := g
  obtain ⟨hx, hb, hml, hr, hown, hnm, hRm, hts, hK, -⟩ := hC
  intro H ls lc hR hl hS
  have hc := hR.2.2.2.2.2.1 a ht
  have ha := hR.tag0 ht (by omega)
  simp only [List.map_cons]
  rw [show mj_val (vR a) = .ref (a - 1) from mj_rfs ha.1]
  refine W.iast hx hb hc ((mj_ar3 hK).1 _ _) (fun q => by cases q) (by show ¬ (i < 0 ∨ (arrV _ _ _).slots.size ≤ _); rw [arrV_size]; exact hin) rfl rfl hd fun H1 e1 e2 e3 => ?_
  refine kk H1 ls _ (hR.upd ha.1 (mj_off_wi M a _ x) e2 e3 (fun ci q h hq => ?_) (fun _ => ?_) (fun h => by omega) (fun h => by omega)) hl (hS.put e2 e3 ha.2.1)
  · have h2 := (List.getElem?_eq_some_iff.mp hq).1
    have h3 : mj_cs.length = 12 := rfl
    omega
  · rw [e1, vp_cell_i, vp_cell_i, mj_arrV_st]
    congr 2
    funext q
    by_cases hq : q = i.toNatClampNeg <;> simp [updV, mj_wi, mj_i, mj_u2, hq]
end MJMEM

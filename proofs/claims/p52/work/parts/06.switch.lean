/-! THE LAYER, fourth part: switches, a constant by a wide place, and small words for the walks. -/
theorem mj_yy {c : Prop} {_ : Decidable c} {A B : Prop} (hc : c) (h : if c then A else B) : A := by rwa [if_pos hc] at h
theorem mj_nn {c : Prop} {_ : Decidable c} {A B : Prop} (hc : ¬ c) (h : if c then A else B) : B := by rwa [if_neg hc] at h
section MJSW
variable {g : mj_G} {y : MethodName} {cc : ByteArray} {nL : Nat} {ret : Option FieldType} {rm : Room} {pc : Nat} {L : List (Nat × mj_Vt)} {st : List mj_Vt} {M : mj_M} {k n : Nat}
theorem mx_ldcw {v : Int32} {i : Nat} (hC : mj_C g y cc nL ret rm) (hd : decode cc pc = .ok (.ldc_w i, 3)) (hw : Cond.constant y.cls i v ∈ mj_tbl) (kk : mj_X g (pc + 3) L (vI v :: st) M k n) : mj_X g pc L st M k n := by
  obtain ⟨p, l, e, R, s, m, args, below, meth, c, Q, base, D, A⟩ := g
  obtain ⟨hx, hb, hml, hr, hown, hnm, hRm, hts, -⟩ := hC
  exact fun H ls lc hR hl hS => lv_ldcw hx hb hown (hts _ hw) hd (kk H ls lc hR hl hS)
theorem mx_tsin {dflt lo hi off : Int} {offs : Array Int} {len tgt : Nat} {x v : Int32} (hC : mj_C g y cc nL ret rm) (hd : decode cc pc = .ok (.tableswitch dflt lo hi offs, len)) (hx : x = v) (h1 : ¬ v.toInt < lo) (h2 : ¬ hi < v.toInt) (ho : offs[(v.toInt - lo).toNat]? = some off) (ht : (pc : Int) + off = (tgt : Int)) (kk : mj_X g tgt L st M k n) : mj_X g pc L (vI x :: st) M k n := by
  obtain ⟨p, l, e, R, s, m, args, below, meth, c, Q, base, D, A⟩ := g
  subst hx
  exact fun H ls lc hR hl hS => lv_tableIn hC.1 hC.2.1 hd h1 h2 ho ht (kk H ls lc hR hl hS)
theorem mx_tsout {dflt lo hi : Int} {offs : Array Int} {len tgt : Nat} {x : Int32} {vs : List Int32} (hC : mj_C g y cc nL ret rm) (hd : decode cc pc = .ok (.tableswitch dflt lo hi offs, len)) (h1 : (hi = lo + offs.size - 1 ∧ ∀ i, i < offs.size → offs[i]? = some dflt ∨ ∃ v ∈ vs, v.toInt = lo + i)) (ht : (pc : Int) + dflt = (tgt : Int)) (hv : ∀ v ∈ vs, ¬ x = v) (kk : mj_X g tgt L st M k n) : mj_X g pc L (vI x :: st) M k n := by
  obtain ⟨p, l, e, R, s, m, args, below, meth, c, Q, base, D, A⟩ := g
  intro H ls lc hR hl hS
  by_cases hx : x.toInt < lo ∨ hi < x.toInt
  · exact lv_tableOut hC.1 hC.2.1 hd hx ht (kk H ls lc hR hl hS)
  · have ha : ¬ x.toInt < lo := fun q => hx (Or.inl q)
    have hb : ¬ hi < x.toInt := fun q => hx (Or.inr q)
    obtain ⟨he, hall⟩ := h1
    rcases hall (x.toInt - lo).toNat (by omega) with h | ⟨v, hvm, hvi⟩
    · exact lv_tableIn hC.1 hC.2.1 hd ha hb h ht (kk H ls lc hR hl hS)
    · exact absurd (Int32.toInt_inj.mp (by rw [hvi]; omega)) (hv v hvm)
theorem mx_lsin {dflt off : Int} {ps : Array (Int × Int)} {len tgt : Nat} {x v : Int32} (hC : mj_C g y cc nL ret rm) (hd : decode cc pc = .ok (.lookupswitch dflt ps, len)) (hx : x = v) (hp : (ps.toList.zip (ps.toList.drop 1)).all (fun (a, next) => a.1 < next.1) = true) (ho : Op.lookupswitch.offset ps.toList dflt v.toInt = off) (ht : (pc : Int) + off = (tgt : Int)) (kk : mj_X g tgt L st M k n) : mj_X g pc L (vI x :: st) M k n := by
  obtain ⟨p, l, e, R, s, m, args, below, meth, c, Q, base, D, A⟩ := g
  subst hx
  exact fun H ls lc hR hl hS => lv_lookup hC.1 hC.2.1 hd hp ho ht (kk H ls lc hR hl hS)
theorem mj_lso {d k : Int} : ∀ (ps : List (Int × Int)), (∀ q ∈ ps, ¬ q.1 = k) → Op.lookupswitch.offset ps d k = d := by
  intro ps
  induction ps with
  | nil => intro _; rfl
  | cons q ps ih =>
    intro h
    obtain ⟨a, o⟩ := q
    rw [Op.lookupswitch.offset_cons, if_neg (h (a, o) List.mem_cons_self)]
    exact ih (fun q hq => h q (List.mem_cons_of_mem _ hq))
theorem mx_lsout {dflt : Int} {ps : Array (Int × Int)} {len tgt : Nat} {x : Int32} {vs : List Int32} (hC : mj_C g y cc nL ret rm) (hd : decode cc pc = .ok (.lookupswitch dflt ps, len)) (hp : (ps.toList.zip (ps.toList.drop 1)).all (fun (a, next) => a.1 < next.1) = true) (hk : ∀ q ∈ ps.toList, ∃ v ∈ vs, v.toInt = q.1) (ht : (pc : Int) + dflt = (tgt : Int)) (hv : ∀ v ∈ vs, ¬ x = v) (kk : mj_X g tgt L st M k n) : mj_X g pc L (vI x :: st) M k n := by
  obtain ⟨p, l, e, R, s, m, args, below, meth, c, Q, base, D, A⟩ := g
  intro H ls lc hR hl hS
  refine lv_lookup hC.1 hC.2.1 hd hp (mj_lso _ (fun q hq e => ?_)) ht (kk H ls lc hR hl hS)
  obtain ⟨v, h1, h2⟩ := hk q hq
  exact hv v h1 (Int32.toInt_inj.mp (by rw [h2]; exact e.symm))
end MJSW
theorem goodIn_r {big : List Cond} (ws : List Cond) (ps : List Nat) (hp : ws = ps.filterMap (fun i => big[i]?)) (h : ws.all goodWord = true) : GoodIn big ws := by
  intro w hw
  have h1 := List.all_eq_true.mp h w hw
  rw [hp] at hw
  obtain ⟨i, -, hi⟩ := List.mem_filterMap.mp hw
  have hm : w ∈ big := by first | exact List.mem_of_getElem? hi | exact List.getElem?_mem hi
  exact ⟨hm, good_of_word h1⟩
theorem mx_setM {g : mj_G} {pc : Nat} {L : List (Nat × mj_Vt)} {st : List mj_Vt} {M M1 : mj_M} {k n : Nat} (e : M = M1) (kk : mj_X g pc L st M1 k n) : mj_X g pc L st M k n := by
  subst e
  exact kk
theorem tw_oi : Cond.instanceMethod Lib.objectInit ∈ mj_tbl := mj_w 34 (by decide +kernel) (by decide +kernel)
theorem tw_oc : Cond.code Lib.objectInit ⟨#[0xb1]⟩ 1 none ∈ mj_tbl := mj_w 35 (by decide +kernel) (by decide +kernel)

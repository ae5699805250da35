/-! THE CLAIM OUT OF ONE WALK OF THE LAW'S BODY. Your part is whole_start (and what it stands on); all else here is the same for every law, but numbers. -/
def R_law : String := "LeaseLandLaw"
def lw_P (b : Addr) (xs : List Int32) (args : Array Value) (s : State) : Prop := args = #[.ref b] ∧ s.IntsAt b xs ∧ xs.length ≤ 260 ∧ (Jvm.Cond.and given_1 narrow_1).before args s = true
def lw_Q (_ : Array Value) (s : State) (o : Outcome) (t : State) : Prop := o = .returned (some (.int 1)) ∧ Framed s o t [] 600000 7302250
def lw_Z (below : List Frame) (a : Array Value) (s : State) : State → Prop := fun t => ∃ o, t.status = .running ∧ Ended t below o ∧ lw_Q a s o t
/-- the law's own end, with 1 on the stack, nothing written that was there before, its room as the claim has it -/
theorem lw_ret {p : Program} {l : Launch} {e : Env} {s : State} {m : MethodId} {below : List Frame} {meth : Method} {c : Code} {b : Nat} (hx : p.tables.exec = Jvm.exec) (hb : c.code = code) (hr : meth.sig.returnType = ret) (hlocks : meth.locks = false) {pc : Nat} {H : Heap} {ls : Array Slot} (hdg : decode code pc = .ok (.ireturn, 1)) : W p l e room_1 s m #[Value.ref b] below meth c H [] 600000 7302250 (lw_Z below #[Value.ref b] s) (F0 m pc ls [.int 1]) := by
  intro T hT X
  obtain ⟨fs, hret, hrun, hended, hW, hframe⟩ := X.leave (v := some (.int 1)) (hlocks := hlocks) (fun h => by rw [hr] at h; cases h)
  have hmeth' : T.vm.method? m = some meth := X.method'
  refine ⟨T.setFrames fs, ?_, .returned (some (.int 1)), hrun, hended, rfl, ⟨_, rfl⟩, hW, hframe⟩
  jvm_step X.here [X.here.top, hx, hb, hdg, hmeth', hr, ret, narrow_b1]
  (try refine ⟨rfl, ?_⟩); (try refine ⟨rfl, ?_⟩)
  first | (intro acts; rw [hret _ acts rfl rfl rfl]) | rw [hret _ _ rfl rfl rfl]
  exact Steps.refl _
/-- what holds at the law's entry: the machine, the code, the tables' words (any of lw_tbl by 'hts w (by decide +kernel)'), the script of L ints xs at the cell b, what the Statement gives of the start (any of its parts by flat_of_before) -/
def lw_At (p : Program) (s : State) (m : MethodId) (meth : Method) (c : Code) (b L : Nat) (xs : Nat → Int32) : Prop :=
  p.tables.exec = Jvm.exec ∧ c.code = code ∧ meth.sig.returnType = ret ∧ c.maxLocals = 19 ∧ s.vm.findClass R_law = some m.cls ∧ (∀ w ∈ lw_tbl, w.before #[Value.ref b] s = true) ∧ va_X b L xs s s.heap ∧ b < s.heap.size ∧ meth.locks = false ∧ (Jvm.Cond.and given_1 narrow_1).before #[Value.ref b] s = true

def mj_EL : mj_G → Prop
  | (p, l, e, R, s, m, args, below, meth, c, Q, base, D, A) => (∃ b, args = #[.ref b]) ∧ meth.sig.returnType = ret ∧ Q = lw_Z below args s ∧ base = s.heap.size
theorem mx_lwret {g : mj_G} {y : MethodName} {nL : Nat} {rt : Option FieldType} {pc : Nat} {L : List (Nat × mj_Vt)} {M : mj_M} {k n : Nat} (hC : mj_C g y code nL rt room_1) (hE : mj_EL g) (hd : decode code pc = .ok (.ireturn, 1)) (hk : k ≤ 600000) (hn : n ≤ 7302250) : mj_X g pc L [vI 1] M k n := by
  obtain ⟨p, l, e, R, s, m, args, below, meth, c, Q, base, D, A⟩ := g
  obtain ⟨hx, hb, hml, hr, hown, hnm, hRm, hts, hK, hN, hZ, hbs, hlk⟩ := hC
  obtain ⟨⟨b, rfl⟩, h2, rfl, rfl⟩ := hE
  subst hRm
  intro H ls lc hR hl hS
  exact va_forget hS.2.2 (W.widen hk hn (lw_ret hx hb h2 hlk hd))

def rm_L_cell : Room := { frames := 0, cells := 0, slots := 0, locals := 0 }
theorem tw22 : (Jvm.Cond.classLink "LeaseLandLaw" (9 : Nat) "LeaseLand") ∈ mj_tbl := mj_w 28 (by decide +kernel) (by decide +kernel)
theorem tw23 : (Jvm.Cond.instantiable "LeaseLand" (8 : Nat)) ∈ mj_tbl := mj_w 29 (by decide +kernel) (by decide +kernel)
theorem tw24 : (Jvm.Cond.methodLink "LeaseLandLaw" (57 : Nat) ({ cls := "LeaseLand", name := "<init>", desc := "()V" } : Jvm.MethodName)) ∈ mj_tbl := mj_w 30 (by decide +kernel) (by decide +kernel)
theorem tw267 : (Jvm.Cond.methodLink "LeaseLandLaw" (54 : Nat) ({ cls := "LeaseLand", name := "today", desc := "(I)I" } : Jvm.MethodName)) ∈ mj_tbl := mj_w 273 (by decide +kernel) (by decide +kernel)
theorem tw275 : (Jvm.Cond.methodLink "LeaseLandLaw" (28 : Nat) ({ cls := "LeaseLand", name := "whole", desc := "(II)I" } : Jvm.MethodName)) ∈ mj_tbl := mj_w 281 (by decide +kernel) (by decide +kernel)
theorem tw373 : (Jvm.Cond.methodLink "LeaseLandLaw" (24 : Nat) ({ cls := "LeaseLand", name := "lease", desc := "(IIIII)I" } : Jvm.MethodName)) ∈ mj_tbl := mj_w 379 (by decide +kernel) (by decide +kernel)
theorem tw415 : (Jvm.Cond.methodLink "LeaseLandLaw" (20 : Nat) ({ cls := "LeaseLand", name := "about", desc := "(II)I" } : Jvm.MethodName)) ∈ mj_tbl := mj_w 421 (by decide +kernel) (by decide +kernel)
theorem tw424 : (Jvm.Cond.methodLink "LeaseLandLaw" (67 : Nat) ({ cls := "LeaseLand", name := "chain", desc := "(II)I" } : Jvm.MethodName)) ∈ mj_tbl := mj_w 430 (by decide +kernel) (by decide +kernel)
theorem tw443 : (Jvm.Cond.methodLink "LeaseLandLaw" (64 : Nat) ({ cls := "LeaseLand", name := "rent", desc := "(III)I" } : Jvm.MethodName)) ∈ mj_tbl := mj_w 449 (by decide +kernel) (by decide +kernel)
theorem tw453 : (Jvm.Cond.methodLink "LeaseLandLaw" (58 : Nat) ({ cls := "LeaseLand", name := "say", desc := "(I)I" } : Jvm.MethodName)) ∈ mj_tbl := mj_w 459 (by decide +kernel) (by decide +kernel)
theorem tw464 : (Jvm.Cond.methodLink "LeaseLandLaw" (61 : Nat) ({ cls := "LeaseLand", name := "act", desc := "(II)I" } : Jvm.MethodName)) ∈ mj_tbl := mj_w 470 (by decide +kernel) (by decide +kernel)
theorem tw641 : (Jvm.Cond.methodLink "LeaseLandLaw" (99 : Nat) ({ cls := "LeaseLand", name := "right", desc := "(II)I" } : Jvm.MethodName)) ∈ mj_tbl := mj_w 647 (by decide +kernel) (by decide +kernel)
theorem tw714 : (Jvm.Cond.methodLink "LeaseLandLaw" (102 : Nat) ({ cls := "LeaseLand", name := "first", desc := "(II)I" } : Jvm.MethodName)) ∈ mj_tbl := mj_w 720 (by decide +kernel) (by decide +kernel)
theorem tw724 : (Jvm.Cond.methodLink "LeaseLandLaw" (73 : Nat) ({ cls := "LeaseLand", name := "notice", desc := "(II)I" } : Jvm.MethodName)) ∈ mj_tbl := mj_w 730 (by decide +kernel) (by decide +kernel)
theorem tw779 : (Jvm.Cond.methodLink "LeaseLandLaw" (79 : Nat) ({ cls := "LeaseLand", name := "answer", desc := "(IZ)I" } : Jvm.MethodName)) ∈ mj_tbl := mj_w 785 (by decide +kernel) (by decide +kernel)
theorem tw792 : (Jvm.Cond.methodLink "LeaseLandLaw" (84 : Nat) ({ cls := "LeaseLand", name := "status", desc := "(I)I" } : Jvm.MethodName)) ∈ mj_tbl := mj_w 798 (by decide +kernel) (by decide +kernel)
theorem tw796 : (Jvm.Cond.methodLink "LeaseLandLaw" (76 : Nat) ({ cls := "LeaseLand", name := "carry", desc := "(I)I" } : Jvm.MethodName)) ∈ mj_tbl := mj_w 802 (by decide +kernel) (by decide +kernel)
theorem tw843 : (Jvm.Cond.methodLink "LeaseLandLaw" (70 : Nat) ({ cls := "LeaseLand", name := "stay", desc := "(I)I" } : Jvm.MethodName)) ∈ mj_tbl := mj_w 849 (by decide +kernel) (by decide +kernel)
theorem tw848 : (Jvm.Cond.methodLink "LeaseLandLaw" (87 : Nat) ({ cls := "LeaseLand", name := "price", desc := "(II)J" } : Jvm.MethodName)) ∈ mj_tbl := mj_w 854 (by decide +kernel) (by decide +kernel)
theorem tw893 : (Jvm.Cond.methodLink "LeaseLandLaw" (93 : Nat) ({ cls := "LeaseLand", name := "may", desc := "(II)I" } : Jvm.MethodName)) ∈ mj_tbl := mj_w 899 (by decide +kernel) (by decide +kernel)
theorem tw920 : (Jvm.Cond.methodLink "LeaseLandLaw" (96 : Nat) ({ cls := "LeaseLand", name := "more", desc := "(II)I" } : Jvm.MethodName)) ∈ mj_tbl := mj_w 926 (by decide +kernel) (by decide +kernel)
theorem tw924 : (Jvm.Cond.methodLink "LeaseLandLaw" (44 : Nat) ({ cls := "LeaseLand", name := "breach", desc := "(IZ)I" } : Jvm.MethodName)) ∈ mj_tbl := mj_w 930 (by decide +kernel) (by decide +kernel)
theorem tw928 : (Jvm.Cond.methodLink "LeaseLandLaw" (48 : Nat) ({ cls := "LeaseLand", name := "forfeit", desc := "(I)I" } : Jvm.MethodName)) ∈ mj_tbl := mj_w 934 (by decide +kernel) (by decide +kernel)
theorem tw934 : (Jvm.Cond.methodLink "LeaseLandLaw" (51 : Nat) ({ cls := "LeaseLand", name := "relieve", desc := "(I)I" } : Jvm.MethodName)) ∈ mj_tbl := mj_w 940 (by decide +kernel) (by decide +kernel)
theorem tw948 : (Jvm.Cond.methodLink "LeaseLandLaw" (14 : Nat) ({ cls := "LeaseLandLaw", name := "cell", desc := "([III)I" } : Jvm.MethodName)) ∈ mj_tbl := mj_w 954 (by decide +kernel) (by decide +kernel)
theorem tw951 : (Jvm.Cond.constant "LeaseLandLaw" (7 : Nat) (4194303 : Int32)) ∈ mj_tbl := mj_w 957 (by decide +kernel) (by decide +kernel)
theorem tw952 : (Jvm.Cond.constant "LeaseLandLaw" (82 : Nat) (32850 : Int32)) ∈ mj_tbl := mj_w 958 (by decide +kernel) (by decide +kernel)
theorem tw953 : (Jvm.Cond.constant "LeaseLandLaw" (83 : Nat) (73000 : Int32)) ∈ mj_tbl := mj_w 959 (by decide +kernel) (by decide +kernel)
theorem tw954 : (Jvm.Cond.constantLong "LeaseLandLaw" (91 : Nat) (-1000000000000003 : Int64)) ∈ mj_tbl := mj_w 960 (by decide +kernel) (by decide +kernel)
theorem tw950 : (Jvm.Cond.code ({ cls := "LeaseLandLaw", name := "cell", desc := "([III)I" } : Jvm.MethodName) method_2_code (3 : Nat) (Option.some Jvm.ClassFile.FieldType.int)) ∈ mj_tbl := mj_w 956 (by decide +kernel) (by decide +kernel)
theorem tw0 : (Jvm.Cond.initialized "LeaseLandLaw") ∈ mj_tbl := mj_w 6 (by decide +kernel) (by decide +kernel)
theorem tw949 : (Jvm.Cond.static ({ cls := "LeaseLandLaw", name := "cell", desc := "([III)I" } : Jvm.MethodName)) ∈ mj_tbl := mj_w 955 (by decide +kernel) (by decide +kernel)
theorem ty_L_cell : mj_YS yL_cell cL_cell 3 (some .int) 3 := ⟨⟨tw950, tw0, by decide +kernel, by decide +kernel, by decide +kernel⟩, tw949⟩
theorem tw418 : (Jvm.Cond.code ({ cls := "LeaseLand", name := "about", desc := "(II)I" } : Jvm.MethodName) prog_1_method_10_code (4 : Nat) (Option.some Jvm.ClassFile.FieldType.int)) ∈ mj_tbl := mj_w 424 (by decide +kernel) (by decide +kernel)
theorem tw416 : (Jvm.Cond.instanceMethod ({ cls := "LeaseLand", name := "about", desc := "(II)I" } : Jvm.MethodName)) ∈ mj_tbl := mj_w 422 (by decide +kernel) (by decide +kernel)
theorem tw417 : (Jvm.Cond.selects "LeaseLand" ({ cls := "LeaseLand", name := "about", desc := "(II)I" } : Jvm.MethodName) ({ cls := "LeaseLand", name := "about", desc := "(II)I" } : Jvm.MethodName)) ∈ mj_tbl := mj_w 423 (by decide +kernel) (by decide +kernel)
theorem ty_X11_about : mj_YV 11 yX11_about cX11_about 4 (some .int) 2 := ⟨⟨tw418, tw1, by decide +kernel, by decide +kernel, by decide +kernel⟩, tw416, tw417, _, rfl, rfl⟩
theorem tw467 : (Jvm.Cond.code ({ cls := "LeaseLand", name := "act", desc := "(II)I" } : Jvm.MethodName) prog_1_method_20_code (3 : Nat) (Option.some Jvm.ClassFile.FieldType.int)) ∈ mj_tbl := mj_w 473 (by decide +kernel) (by decide +kernel)
theorem tw465 : (Jvm.Cond.instanceMethod ({ cls := "LeaseLand", name := "act", desc := "(II)I" } : Jvm.MethodName)) ∈ mj_tbl := mj_w 471 (by decide +kernel) (by decide +kernel)
theorem tw466 : (Jvm.Cond.selects "LeaseLand" ({ cls := "LeaseLand", name := "act", desc := "(II)I" } : Jvm.MethodName) ({ cls := "LeaseLand", name := "act", desc := "(II)I" } : Jvm.MethodName)) ∈ mj_tbl := mj_w 472 (by decide +kernel) (by decide +kernel)
theorem ty_X11_act : mj_YV 11 yX11_act cX11_act 3 (some .int) 2 := ⟨⟨tw467, tw1, by decide +kernel, by decide +kernel, by decide +kernel⟩, tw465, tw466, _, rfl, rfl⟩
theorem tw782 : (Jvm.Cond.code ({ cls := "LeaseLand", name := "answer", desc := "(IZ)I" } : Jvm.MethodName) prog_1_method_28_code (3 : Nat) (Option.some Jvm.ClassFile.FieldType.int)) ∈ mj_tbl := mj_w 788 (by decide +kernel) (by decide +kernel)
theorem tw780 : (Jvm.Cond.instanceMethod ({ cls := "LeaseLand", name := "answer", desc := "(IZ)I" } : Jvm.MethodName)) ∈ mj_tbl := mj_w 786 (by decide +kernel) (by decide +kernel)
theorem tw781 : (Jvm.Cond.selects "LeaseLand" ({ cls := "LeaseLand", name := "answer", desc := "(IZ)I" } : Jvm.MethodName) ({ cls := "LeaseLand", name := "answer", desc := "(IZ)I" } : Jvm.MethodName)) ∈ mj_tbl := mj_w 787 (by decide +kernel) (by decide +kernel)
theorem ty_X11_answer : mj_YV 11 yX11_answer cX11_answer 3 (some .int) 2 := ⟨⟨tw782, tw1, by decide +kernel, by decide +kernel, by decide +kernel⟩, tw780, tw781, _, rfl, rfl⟩
theorem tw927 : (Jvm.Cond.code ({ cls := "LeaseLand", name := "breach", desc := "(IZ)I" } : Jvm.MethodName) prog_1_method_50_code (4 : Nat) (Option.some Jvm.ClassFile.FieldType.int)) ∈ mj_tbl := mj_w 933 (by decide +kernel) (by decide +kernel)
theorem tw925 : (Jvm.Cond.instanceMethod ({ cls := "LeaseLand", name := "breach", desc := "(IZ)I" } : Jvm.MethodName)) ∈ mj_tbl := mj_w 931 (by decide +kernel) (by decide +kernel)
theorem tw926 : (Jvm.Cond.selects "LeaseLand" ({ cls := "LeaseLand", name := "breach", desc := "(IZ)I" } : Jvm.MethodName) ({ cls := "LeaseLand", name := "breach", desc := "(IZ)I" } : Jvm.MethodName)) ∈ mj_tbl := mj_w 932 (by decide +kernel) (by decide +kernel)
theorem ty_X11_breach : mj_YV 11 yX11_breach cX11_breach 4 (some .int) 2 := ⟨⟨tw927, tw1, by decide +kernel, by decide +kernel, by decide +kernel⟩, tw925, tw926, _, rfl, rfl⟩
theorem tw799 : (Jvm.Cond.code ({ cls := "LeaseLand", name := "carry", desc := "(I)I" } : Jvm.MethodName) prog_1_method_33_code (3 : Nat) (Option.some Jvm.ClassFile.FieldType.int)) ∈ mj_tbl := mj_w 805 (by decide +kernel) (by decide +kernel)
theorem tw797 : (Jvm.Cond.instanceMethod ({ cls := "LeaseLand", name := "carry", desc := "(I)I" } : Jvm.MethodName)) ∈ mj_tbl := mj_w 803 (by decide +kernel) (by decide +kernel)
theorem tw798 : (Jvm.Cond.selects "LeaseLand" ({ cls := "LeaseLand", name := "carry", desc := "(I)I" } : Jvm.MethodName) ({ cls := "LeaseLand", name := "carry", desc := "(I)I" } : Jvm.MethodName)) ∈ mj_tbl := mj_w 804 (by decide +kernel) (by decide +kernel)
theorem ty_X11_carry : mj_YV 11 yX11_carry cX11_carry 3 (some .int) 1 := ⟨⟨tw799, tw1, by decide +kernel, by decide +kernel, by decide +kernel⟩, tw797, tw798, _, rfl, rfl⟩
theorem tw427 : (Jvm.Cond.code ({ cls := "LeaseLand", name := "chain", desc := "(II)I" } : Jvm.MethodName) prog_1_method_11_code (5 : Nat) (Option.some Jvm.ClassFile.FieldType.int)) ∈ mj_tbl := mj_w 433 (by decide +kernel) (by decide +kernel)
theorem tw425 : (Jvm.Cond.instanceMethod ({ cls := "LeaseLand", name := "chain", desc := "(II)I" } : Jvm.MethodName)) ∈ mj_tbl := mj_w 431 (by decide +kernel) (by decide +kernel)
theorem tw426 : (Jvm.Cond.selects "LeaseLand" ({ cls := "LeaseLand", name := "chain", desc := "(II)I" } : Jvm.MethodName) ({ cls := "LeaseLand", name := "chain", desc := "(II)I" } : Jvm.MethodName)) ∈ mj_tbl := mj_w 432 (by decide +kernel) (by decide +kernel)
theorem ty_X11_chain : mj_YV 11 yX11_chain cX11_chain 5 (some .int) 2 := ⟨⟨tw427, tw1, by decide +kernel, by decide +kernel, by decide +kernel⟩, tw425, tw426, _, rfl, rfl⟩
theorem tw717 : (Jvm.Cond.code ({ cls := "LeaseLand", name := "first", desc := "(II)I" } : Jvm.MethodName) prog_1_method_26_code (6 : Nat) (Option.some Jvm.ClassFile.FieldType.int)) ∈ mj_tbl := mj_w 723 (by decide +kernel) (by decide +kernel)
theorem tw715 : (Jvm.Cond.instanceMethod ({ cls := "LeaseLand", name := "first", desc := "(II)I" } : Jvm.MethodName)) ∈ mj_tbl := mj_w 721 (by decide +kernel) (by decide +kernel)
theorem tw716 : (Jvm.Cond.selects "LeaseLand" ({ cls := "LeaseLand", name := "first", desc := "(II)I" } : Jvm.MethodName) ({ cls := "LeaseLand", name := "first", desc := "(II)I" } : Jvm.MethodName)) ∈ mj_tbl := mj_w 722 (by decide +kernel) (by decide +kernel)
theorem ty_X11_first : mj_YV 11 yX11_first cX11_first 6 (some .int) 2 := ⟨⟨tw717, tw1, by decide +kernel, by decide +kernel, by decide +kernel⟩, tw715, tw716, _, rfl, rfl⟩
theorem tw931 : (Jvm.Cond.code ({ cls := "LeaseLand", name := "forfeit", desc := "(I)I" } : Jvm.MethodName) prog_1_method_51_code (3 : Nat) (Option.some Jvm.ClassFile.FieldType.int)) ∈ mj_tbl := mj_w 937 (by decide +kernel) (by decide +kernel)
theorem tw929 : (Jvm.Cond.instanceMethod ({ cls := "LeaseLand", name := "forfeit", desc := "(I)I" } : Jvm.MethodName)) ∈ mj_tbl := mj_w 935 (by decide +kernel) (by decide +kernel)
theorem tw930 : (Jvm.Cond.selects "LeaseLand" ({ cls := "LeaseLand", name := "forfeit", desc := "(I)I" } : Jvm.MethodName) ({ cls := "LeaseLand", name := "forfeit", desc := "(I)I" } : Jvm.MethodName)) ∈ mj_tbl := mj_w 936 (by decide +kernel) (by decide +kernel)
theorem ty_X11_forfeit : mj_YV 11 yX11_forfeit cX11_forfeit 3 (some .int) 1 := ⟨⟨tw931, tw1, by decide +kernel, by decide +kernel, by decide +kernel⟩, tw929, tw930, _, rfl, rfl⟩
theorem tw26 : (Jvm.Cond.code ({ cls := "LeaseLand", name := "<init>", desc := "()V" } : Jvm.MethodName) prog_1_method_1_code (1 : Nat) (Option.none : Option Jvm.ClassFile.FieldType)) ∈ mj_tbl := mj_w 32 (by decide +kernel) (by decide +kernel)
theorem tw25 : (Jvm.Cond.instanceMethod ({ cls := "LeaseLand", name := "<init>", desc := "()V" } : Jvm.MethodName)) ∈ mj_tbl := mj_w 31 (by decide +kernel) (by decide +kernel)
theorem ty_X11_init : mj_YI yX11_init cX11_init 1 0 := ⟨⟨tw26, tw1, by decide +kernel, by decide +kernel, by decide +kernel⟩, tw25, rfl⟩
theorem tw376 : (Jvm.Cond.code ({ cls := "LeaseLand", name := "lease", desc := "(IIIII)I" } : Jvm.MethodName) prog_1_method_4_code (8 : Nat) (Option.some Jvm.ClassFile.FieldType.int)) ∈ mj_tbl := mj_w 382 (by decide +kernel) (by decide +kernel)
theorem tw374 : (Jvm.Cond.instanceMethod ({ cls := "LeaseLand", name := "lease", desc := "(IIIII)I" } : Jvm.MethodName)) ∈ mj_tbl := mj_w 380 (by decide +kernel) (by decide +kernel)
theorem tw375 : (Jvm.Cond.selects "LeaseLand" ({ cls := "LeaseLand", name := "lease", desc := "(IIIII)I" } : Jvm.MethodName) ({ cls := "LeaseLand", name := "lease", desc := "(IIIII)I" } : Jvm.MethodName)) ∈ mj_tbl := mj_w 381 (by decide +kernel) (by decide +kernel)
theorem ty_X11_lease : mj_YV 11 yX11_lease cX11_lease 8 (some .int) 5 := ⟨⟨tw376, tw1, by decide +kernel, by decide +kernel, by decide +kernel⟩, tw374, tw375, _, rfl, rfl⟩
theorem tw896 : (Jvm.Cond.code ({ cls := "LeaseLand", name := "may", desc := "(II)I" } : Jvm.MethodName) prog_1_method_46_code (4 : Nat) (Option.some Jvm.ClassFile.FieldType.int)) ∈ mj_tbl := mj_w 902 (by decide +kernel) (by decide +kernel)
theorem tw894 : (Jvm.Cond.instanceMethod ({ cls := "LeaseLand", name := "may", desc := "(II)I" } : Jvm.MethodName)) ∈ mj_tbl := mj_w 900 (by decide +kernel) (by decide +kernel)
theorem tw895 : (Jvm.Cond.selects "LeaseLand" ({ cls := "LeaseLand", name := "may", desc := "(II)I" } : Jvm.MethodName) ({ cls := "LeaseLand", name := "may", desc := "(II)I" } : Jvm.MethodName)) ∈ mj_tbl := mj_w 901 (by decide +kernel) (by decide +kernel)
theorem ty_X11_may : mj_YV 11 yX11_may cX11_may 4 (some .int) 2 := ⟨⟨tw896, tw1, by decide +kernel, by decide +kernel, by decide +kernel⟩, tw894, tw895, _, rfl, rfl⟩
theorem tw923 : (Jvm.Cond.code ({ cls := "LeaseLand", name := "more", desc := "(II)I" } : Jvm.MethodName) prog_1_method_47_code (8 : Nat) (Option.some Jvm.ClassFile.FieldType.int)) ∈ mj_tbl := mj_w 929 (by decide +kernel) (by decide +kernel)
theorem tw921 : (Jvm.Cond.instanceMethod ({ cls := "LeaseLand", name := "more", desc := "(II)I" } : Jvm.MethodName)) ∈ mj_tbl := mj_w 927 (by decide +kernel) (by decide +kernel)
theorem tw922 : (Jvm.Cond.selects "LeaseLand" ({ cls := "LeaseLand", name := "more", desc := "(II)I" } : Jvm.MethodName) ({ cls := "LeaseLand", name := "more", desc := "(II)I" } : Jvm.MethodName)) ∈ mj_tbl := mj_w 928 (by decide +kernel) (by decide +kernel)
theorem ty_X11_more : mj_YV 11 yX11_more cX11_more 8 (some .int) 2 := ⟨⟨tw923, tw1, by decide +kernel, by decide +kernel, by decide +kernel⟩, tw921, tw922, _, rfl, rfl⟩
theorem tw727 : (Jvm.Cond.code ({ cls := "LeaseLand", name := "notice", desc := "(II)I" } : Jvm.MethodName) prog_1_method_27_code (5 : Nat) (Option.some Jvm.ClassFile.FieldType.int)) ∈ mj_tbl := mj_w 733 (by decide +kernel) (by decide +kernel)
theorem tw725 : (Jvm.Cond.instanceMethod ({ cls := "LeaseLand", name := "notice", desc := "(II)I" } : Jvm.MethodName)) ∈ mj_tbl := mj_w 731 (by decide +kernel) (by decide +kernel)
theorem tw726 : (Jvm.Cond.selects "LeaseLand" ({ cls := "LeaseLand", name := "notice", desc := "(II)I" } : Jvm.MethodName) ({ cls := "LeaseLand", name := "notice", desc := "(II)I" } : Jvm.MethodName)) ∈ mj_tbl := mj_w 732 (by decide +kernel) (by decide +kernel)
theorem ty_X11_notice : mj_YV 11 yX11_notice cX11_notice 5 (some .int) 2 := ⟨⟨tw727, tw1, by decide +kernel, by decide +kernel, by decide +kernel⟩, tw725, tw726, _, rfl, rfl⟩
theorem tw851 : (Jvm.Cond.code ({ cls := "LeaseLand", name := "price", desc := "(II)J" } : Jvm.MethodName) prog_1_method_44_code (4 : Nat) (Option.some Jvm.ClassFile.FieldType.long)) ∈ mj_tbl := mj_w 857 (by decide +kernel) (by decide +kernel)
theorem tw849 : (Jvm.Cond.instanceMethod ({ cls := "LeaseLand", name := "price", desc := "(II)J" } : Jvm.MethodName)) ∈ mj_tbl := mj_w 855 (by decide +kernel) (by decide +kernel)
theorem tw850 : (Jvm.Cond.selects "LeaseLand" ({ cls := "LeaseLand", name := "price", desc := "(II)J" } : Jvm.MethodName) ({ cls := "LeaseLand", name := "price", desc := "(II)J" } : Jvm.MethodName)) ∈ mj_tbl := mj_w 856 (by decide +kernel) (by decide +kernel)
theorem ty_X11_price : mj_YV 11 yX11_price cX11_price 4 (some .long) 2 := ⟨⟨tw851, tw1, by decide +kernel, by decide +kernel, by decide +kernel⟩, tw849, tw850, _, rfl, rfl⟩
theorem tw937 : (Jvm.Cond.code ({ cls := "LeaseLand", name := "relieve", desc := "(I)I" } : Jvm.MethodName) prog_1_method_52_code (3 : Nat) (Option.some Jvm.ClassFile.FieldType.int)) ∈ mj_tbl := mj_w 943 (by decide +kernel) (by decide +kernel)
theorem tw935 : (Jvm.Cond.instanceMethod ({ cls := "LeaseLand", name := "relieve", desc := "(I)I" } : Jvm.MethodName)) ∈ mj_tbl := mj_w 941 (by decide +kernel) (by decide +kernel)
theorem tw936 : (Jvm.Cond.selects "LeaseLand" ({ cls := "LeaseLand", name := "relieve", desc := "(I)I" } : Jvm.MethodName) ({ cls := "LeaseLand", name := "relieve", desc := "(I)I" } : Jvm.MethodName)) ∈ mj_tbl := mj_w 942 (by decide +kernel) (by decide +kernel)
theorem ty_X11_relieve : mj_YV 11 yX11_relieve cX11_relieve 3 (some .int) 1 := ⟨⟨tw937, tw1, by decide +kernel, by decide +kernel, by decide +kernel⟩, tw935, tw936, _, rfl, rfl⟩
theorem tw446 : (Jvm.Cond.code ({ cls := "LeaseLand", name := "rent", desc := "(III)I" } : Jvm.MethodName) prog_1_method_13_code (6 : Nat) (Option.some Jvm.ClassFile.FieldType.int)) ∈ mj_tbl := mj_w 452 (by decide +kernel) (by decide +kernel)
theorem tw444 : (Jvm.Cond.instanceMethod ({ cls := "LeaseLand", name := "rent", desc := "(III)I" } : Jvm.MethodName)) ∈ mj_tbl := mj_w 450 (by decide +kernel) (by decide +kernel)
theorem tw445 : (Jvm.Cond.selects "LeaseLand" ({ cls := "LeaseLand", name := "rent", desc := "(III)I" } : Jvm.MethodName) ({ cls := "LeaseLand", name := "rent", desc := "(III)I" } : Jvm.MethodName)) ∈ mj_tbl := mj_w 451 (by decide +kernel) (by decide +kernel)
theorem ty_X11_rent : mj_YV 11 yX11_rent cX11_rent 6 (some .int) 3 := ⟨⟨tw446, tw1, by decide +kernel, by decide +kernel, by decide +kernel⟩, tw444, tw445, _, rfl, rfl⟩
theorem tw644 : (Jvm.Cond.code ({ cls := "LeaseLand", name := "right", desc := "(II)I" } : Jvm.MethodName) prog_1_method_21_code (5 : Nat) (Option.some Jvm.ClassFile.FieldType.int)) ∈ mj_tbl := mj_w 650 (by decide +kernel) (by decide +kernel)
theorem tw642 : (Jvm.Cond.instanceMethod ({ cls := "LeaseLand", name := "right", desc := "(II)I" } : Jvm.MethodName)) ∈ mj_tbl := mj_w 648 (by decide +kernel) (by decide +kernel)
theorem tw643 : (Jvm.Cond.selects "LeaseLand" ({ cls := "LeaseLand", name := "right", desc := "(II)I" } : Jvm.MethodName) ({ cls := "LeaseLand", name := "right", desc := "(II)I" } : Jvm.MethodName)) ∈ mj_tbl := mj_w 649 (by decide +kernel) (by decide +kernel)
theorem ty_X11_right : mj_YV 11 yX11_right cX11_right 5 (some .int) 2 := ⟨⟨tw644, tw1, by decide +kernel, by decide +kernel, by decide +kernel⟩, tw642, tw643, _, rfl, rfl⟩
theorem tw456 : (Jvm.Cond.code ({ cls := "LeaseLand", name := "say", desc := "(I)I" } : Jvm.MethodName) prog_1_method_17_code (2 : Nat) (Option.some Jvm.ClassFile.FieldType.int)) ∈ mj_tbl := mj_w 462 (by decide +kernel) (by decide +kernel)
theorem tw454 : (Jvm.Cond.instanceMethod ({ cls := "LeaseLand", name := "say", desc := "(I)I" } : Jvm.MethodName)) ∈ mj_tbl := mj_w 460 (by decide +kernel) (by decide +kernel)
theorem tw455 : (Jvm.Cond.selects "LeaseLand" ({ cls := "LeaseLand", name := "say", desc := "(I)I" } : Jvm.MethodName) ({ cls := "LeaseLand", name := "say", desc := "(I)I" } : Jvm.MethodName)) ∈ mj_tbl := mj_w 461 (by decide +kernel) (by decide +kernel)
theorem ty_X11_say : mj_YV 11 yX11_say cX11_say 2 (some .int) 1 := ⟨⟨tw456, tw1, by decide +kernel, by decide +kernel, by decide +kernel⟩, tw454, tw455, _, rfl, rfl⟩
theorem tw795 : (Jvm.Cond.code ({ cls := "LeaseLand", name := "status", desc := "(I)I" } : Jvm.MethodName) prog_1_method_32_code (3 : Nat) (Option.some Jvm.ClassFile.FieldType.int)) ∈ mj_tbl := mj_w 801 (by decide +kernel) (by decide +kernel)
theorem tw793 : (Jvm.Cond.instanceMethod ({ cls := "LeaseLand", name := "status", desc := "(I)I" } : Jvm.MethodName)) ∈ mj_tbl := mj_w 799 (by decide +kernel) (by decide +kernel)
theorem tw794 : (Jvm.Cond.selects "LeaseLand" ({ cls := "LeaseLand", name := "status", desc := "(I)I" } : Jvm.MethodName) ({ cls := "LeaseLand", name := "status", desc := "(I)I" } : Jvm.MethodName)) ∈ mj_tbl := mj_w 800 (by decide +kernel) (by decide +kernel)
theorem ty_X11_status : mj_YV 11 yX11_status cX11_status 3 (some .int) 1 := ⟨⟨tw795, tw1, by decide +kernel, by decide +kernel, by decide +kernel⟩, tw793, tw794, _, rfl, rfl⟩
theorem tw846 : (Jvm.Cond.code ({ cls := "LeaseLand", name := "stay", desc := "(I)I" } : Jvm.MethodName) prog_1_method_34_code (5 : Nat) (Option.some Jvm.ClassFile.FieldType.int)) ∈ mj_tbl := mj_w 852 (by decide +kernel) (by decide +kernel)
theorem tw844 : (Jvm.Cond.instanceMethod ({ cls := "LeaseLand", name := "stay", desc := "(I)I" } : Jvm.MethodName)) ∈ mj_tbl := mj_w 850 (by decide +kernel) (by decide +kernel)
theorem tw845 : (Jvm.Cond.selects "LeaseLand" ({ cls := "LeaseLand", name := "stay", desc := "(I)I" } : Jvm.MethodName) ({ cls := "LeaseLand", name := "stay", desc := "(I)I" } : Jvm.MethodName)) ∈ mj_tbl := mj_w 851 (by decide +kernel) (by decide +kernel)
theorem ty_X11_stay : mj_YV 11 yX11_stay cX11_stay 5 (some .int) 1 := ⟨⟨tw846, tw1, by decide +kernel, by decide +kernel, by decide +kernel⟩, tw844, tw845, _, rfl, rfl⟩
theorem tw270 : (Jvm.Cond.code ({ cls := "LeaseLand", name := "today", desc := "(I)I" } : Jvm.MethodName) prog_1_method_2_code (3 : Nat) (Option.some Jvm.ClassFile.FieldType.int)) ∈ mj_tbl := mj_w 276 (by decide +kernel) (by decide +kernel)
theorem tw268 : (Jvm.Cond.instanceMethod ({ cls := "LeaseLand", name := "today", desc := "(I)I" } : Jvm.MethodName)) ∈ mj_tbl := mj_w 274 (by decide +kernel) (by decide +kernel)
theorem tw269 : (Jvm.Cond.selects "LeaseLand" ({ cls := "LeaseLand", name := "today", desc := "(I)I" } : Jvm.MethodName) ({ cls := "LeaseLand", name := "today", desc := "(I)I" } : Jvm.MethodName)) ∈ mj_tbl := mj_w 275 (by decide +kernel) (by decide +kernel)
theorem ty_X11_today : mj_YV 11 yX11_today cX11_today 3 (some .int) 1 := ⟨⟨tw270, tw1, by decide +kernel, by decide +kernel, by decide +kernel⟩, tw268, tw269, _, rfl, rfl⟩
theorem tw278 : (Jvm.Cond.code ({ cls := "LeaseLand", name := "whole", desc := "(II)I" } : Jvm.MethodName) prog_1_method_3_code (3 : Nat) (Option.some Jvm.ClassFile.FieldType.int)) ∈ mj_tbl := mj_w 284 (by decide +kernel) (by decide +kernel)
theorem tw276 : (Jvm.Cond.instanceMethod ({ cls := "LeaseLand", name := "whole", desc := "(II)I" } : Jvm.MethodName)) ∈ mj_tbl := mj_w 282 (by decide +kernel) (by decide +kernel)
theorem tw277 : (Jvm.Cond.selects "LeaseLand" ({ cls := "LeaseLand", name := "whole", desc := "(II)I" } : Jvm.MethodName) ({ cls := "LeaseLand", name := "whole", desc := "(II)I" } : Jvm.MethodName)) ∈ mj_tbl := mj_w 283 (by decide +kernel) (by decide +kernel)
theorem ty_X11_whole : mj_YV 11 yX11_whole cX11_whole 3 (some .int) 2 := ⟨⟨tw278, tw1, by decide +kernel, by decide +kernel, by decide +kernel⟩, tw276, tw277, _, rfl, rfl⟩
theorem dL_cell_0 : decode cL_cell 0 = .ok (.aload_n 0, 1) := by decide +kernel
theorem dL_cell_1 : decode cL_cell 1 = .ok (.arraylength, 1) := by decide +kernel
theorem dL_cell_2 : decode cL_cell 2 = .ok (.ifCond .ne 12, 3) := by decide +kernel
theorem dL_cell_5 : decode cL_cell 5 = .ok (.iload_n 1, 1) := by decide +kernel
theorem dL_cell_6 : decode cL_cell 6 = .ok (.bipush 37, 2) := by decide +kernel
theorem dL_cell_8 : decode cL_cell 8 = .ok (.imul, 1) := by decide +kernel
theorem dL_cell_9 : decode cL_cell 9 = .ok (.iconst 5, 1) := by decide +kernel
theorem dL_cell_10 : decode cL_cell 10 = .ok (.iadd, 1) := by decide +kernel
theorem dL_cell_11 : decode cL_cell 11 = .ok (.goto 17, 3) := by decide +kernel
theorem dL_cell_14 : decode cL_cell 14 = .ok (.aload_n 0, 1) := by decide +kernel
theorem dL_cell_15 : decode cL_cell 15 = .ok (.iload_n 1, 1) := by decide +kernel
theorem dL_cell_16 : decode cL_cell 16 = .ok (.aload_n 0, 1) := by decide +kernel
theorem dL_cell_17 : decode cL_cell 17 = .ok (.arraylength, 1) := by decide +kernel
theorem dL_cell_18 : decode cL_cell 18 = .ok (.irem, 1) := by decide +kernel
theorem dL_cell_19 : decode cL_cell 19 = .ok (.iaload, 1) := by decide +kernel
theorem dL_cell_20 : decode cL_cell 20 = .ok (.iload_n 1, 1) := by decide +kernel
theorem dL_cell_21 : decode cL_cell 21 = .ok (.bipush 7, 2) := by decide +kernel
theorem dL_cell_23 : decode cL_cell 23 = .ok (.irem, 1) := by decide +kernel
theorem dL_cell_24 : decode cL_cell 24 = .ok (.ishr, 1) := by decide +kernel
theorem dL_cell_25 : decode cL_cell 25 = .ok (.ldc 7, 2) := by decide +kernel
theorem dL_cell_27 : decode cL_cell 27 = .ok (.iand, 1) := by decide +kernel
theorem dL_cell_28 : decode cL_cell 28 = .ok (.iload_n 2, 1) := by decide +kernel
theorem dL_cell_29 : decode cL_cell 29 = .ok (.irem, 1) := by decide +kernel
theorem dL_cell_30 : decode cL_cell 30 = .ok (.ireturn, 1) := by decide +kernel
def vc_L_cell (xs : Nat → Int32) (Ln : Nat) (l1 : Int32) (l2 : Int32) (M : mj_M) (post : Int32 → mj_M → Prop) : Prop := if (Int32.ofNat Ln) = 0 then ((¬ l2 = 0) ∧ post (((l1 * 37) + 5) - ((l1 * 37) + 5) / l2 * l2) M) else ((¬ (Int32.ofNat Ln) = 0) ∧ vp_in (l1 - l1 / (Int32.ofNat Ln) * (Int32.ofNat Ln)) Ln ∧ (¬ l2 = 0) ∧ post ((((xs (l1 - l1 / (Int32.ofNat Ln) * (Int32.ofNat Ln) : Int32).toNatClampNeg) >>> ((l1 - l1 / 7 * 7) &&& 31)) &&& 4194303) - (((xs (l1 - l1 / (Int32.ofNat Ln) * (Int32.ofNat Ln) : Int32).toNatClampNeg) >>> ((l1 - l1 / 7 * 7) &&& 31)) &&& 4194303) / l2 * l2) M)
set_option maxHeartbeats 4000000 in
set_option maxRecDepth 100000 in
theorem ct_L_cell {l : Launch} {base : Nat} {D : va_G} {A : mj_AT} {b Ln : Nat} {xs : Nat → Int32} (hA0 : A.2.2.2 = (b, Ln, xs)) (l1 : Int32) (l2 : Int32) (M : mj_M) (post : Int32 → mj_M → Prop) (h : vc_L_cell xs Ln l1 l2 M post) : mj_Met l base D A mj_jI yL_cell cL_cell 3 (some .int) rm_L_cell 0 0 [vR (b + 1), vI l1, vI l2] M post := by
  refine mj_entry (by decide +kernel) (Nat.le_of_ble_eq_true rfl) (fun g hC hE h1 h2 h3 h4 => ?_)
  have hA : (mj_aa g).2.2.2 = (b, Ln, xs) := by rw [h4]; exact hA0
  show mj_X g 0 [(0, vR (b + 1)), (1, vI l1), (2, vI l2)] [] M 0 0
  simp only [vc_L_cell] at h
  refine mx_aload_n (j := 0) hC dL_cell_0 rfl rfl ?_
  refine mx_slen hC hA dL_cell_1 ?_
  refine mx_ifne (tgt := 14) hC dL_cell_2 (by decide) (fun hc1 => ?_) (fun hc1 => ?_)
  · replace h := mj_nn hc1 h
    refine mx_aload_n (j := 0) hC dL_cell_14 rfl rfl ?_
    refine mx_iload_n (j := 1) hC dL_cell_15 rfl rfl ?_
    refine mx_aload_n (j := 0) hC dL_cell_16 rfl rfl ?_
    refine mx_slen hC hA dL_cell_17 ?_
    obtain ⟨hz2, h⟩ := h
    refine mx_irem hC dL_cell_18 hz2 ?_
    obtain ⟨hi3, h⟩ := h
    refine mx_sld hC hA hi3 dL_cell_19 ?_
    refine mx_iload_n (j := 1) hC dL_cell_20 rfl rfl ?_
    refine mx_bipush (v := 7) hC dL_cell_21 (by decide) ?_
    refine mx_irem hC dL_cell_23 (by decide) ?_
    refine mx_ishr hC dL_cell_24 ?_
    refine mx_ldc (v := 4194303) hC dL_cell_25 tw951 ?_
    refine mx_iand hC dL_cell_27 ?_
    refine mx_iload_n (j := 2) hC dL_cell_28 rfl rfl ?_
    obtain ⟨hz4, h⟩ := h
    refine mx_irem hC dL_cell_29 hz4 ?_
    exact mx_iret hC hE rfl dL_cell_30 h
  · replace h := mj_yy hc1 h
    refine mx_iload_n (j := 1) hC dL_cell_5 rfl rfl ?_
    refine mx_bipush (v := 37) hC dL_cell_6 (by decide) ?_
    refine mx_imul hC dL_cell_8 ?_
    refine mx_iconst (v := 5) hC dL_cell_9 (by decide) ?_
    refine mx_iadd hC dL_cell_10 ?_
    refine mx_goto (tgt := 28) hC dL_cell_11 (by decide) ?_
    refine mx_iload_n (j := 2) hC dL_cell_28 rfl rfl ?_
    obtain ⟨hz5, h⟩ := h
    refine mx_irem hC dL_cell_29 hz5 ?_
    exact mx_iret hC hE rfl dL_cell_30 h

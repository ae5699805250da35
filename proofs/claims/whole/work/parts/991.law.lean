/-! THE CLAIM OUT OF ONE WALK OF THE LAW'S BODY. Your part is whole_start (and what it stands on); all else here is the same for every law, but numbers. -/
def R_law : String := "LeaseLandLaw"
def lw_P (b : Addr) (xs : List Int32) (args : Array Value) (s : State) : Prop := args = #[.ref b] ∧ s.IntsAt b xs ∧ xs.length ≤ 3072 ∧ (Jvm.Cond.and given_1 narrow_1).before args s = true
def lw_Q (_ : Array Value) (s : State) (o : Outcome) (t : State) : Prop := o = .returned (some (.int 1)) ∧ Framed s o t [] 600000 7302250
def lw_Z (below : List Frame) (a : Array Value) (s : State) : State → Prop := fun t => ∃ o, t.status = .running ∧ Ended t below o ∧ lw_Q a s o t
/-- the law's own end, with 1 on the stack, nothing written that was there before, its room as the claim has it -/
theorem lw_ret {p : Program} {l : Launch} {e : Env} {s : State} {m : MethodId} {below : List Frame} {meth : Method} {c : Code} {b : Nat} (hx : p.tables.exec = Jvm.exec) (hb : c.code = code) (hr : meth.sig.returnType = ret) (hlocks : meth.locks = false) {pc : Nat} {H : Heap} {ls : Array Slot} (hdg : decode code pc = .ok (.ireturn, 1)) : W p l e room_1 s m #[Value.ref b] below meth c H [] 600000 7302250 (lw_Z below #[Value.ref b] s) (F0 m pc ls [.int 1]) := by
  intro T hT X
  obtain ⟨fs, hret, hrun, hended, hW, hframe⟩ := X.leave (v := some (.int 1)) (hlocks := hlocks) (fun h => by rw [hr] at h; cases h)
  have hmeth' : T.vm.method? m = some meth := X.method'
  refine ⟨T.setFrames fs, ?_, .returned (some (.int 1)), hrun, hended, rfl, ⟨_, rfl⟩, hW, hframe⟩
  jvm_step X.here [X.here.top, hx, hb, hdg, hmeth', hr, ret, narrow_b1]
  (try refine ⟨rfl, ?_⟩); (try refine ⟨rfl, ?_⟩)
  first | (intro acts; rw [hret _ acts rfl rfl rfl]) | rw [hret _ _ rfl rfl rfl]
  exact Steps.refl _
/-- what holds at the law's entry: the machine, the code, the tables' words (any of lw_tbl by 'hts w (by decide +kernel)'), the script of L ints xs at the cell b, what the Statement gives of the start (any of its parts by flat_of_before) -/
def lw_At (p : Program) (s : State) (m : MethodId) (meth : Method) (c : Code) (b L : Nat) (xs : Nat → Int32) : Prop :=
  p.tables.exec = Jvm.exec ∧ c.code = code ∧ meth.sig.returnType = ret ∧ c.maxLocals = 4 ∧ s.vm.findClass R_law = some m.cls ∧ (∀ w ∈ lw_tbl, w.before #[Value.ref b] s = true) ∧ va_X b L xs s s.heap ∧ b < s.heap.size ∧ meth.locks = false ∧ (Jvm.Cond.and given_1 narrow_1).before #[Value.ref b] s = true

def mj_SC : mj_G → Nat → Nat → (Nat → Int32) → Prop
  | (p, l, e, R, s, m, args, below, meth, c, Q, base, D, A), b, Ln, xs => va_X b Ln xs s s.heap ∧ b < s.heap.size ∧ base = s.heap.size
def mj_EL : mj_G → Prop
  | (p, l, e, R, s, m, args, below, meth, c, Q, base, D, A) => (∃ b, args = #[.ref b]) ∧ meth.sig.returnType = ret ∧ Q = lw_Z below args s ∧ base = s.heap.size
section MJLAW
variable {g : mj_G} {y : MethodName} {cc : ByteArray} {nL : Nat} {rt : Option FieldType} {rm : Room} {pc : Nat} {L : List (Nat × mj_Vt)} {st : List mj_Vt} {M : mj_M} {k n : Nat} {b Ln : Nat} {xs : Nat → Int32}
theorem mx_slen (hC : mj_C g y cc nL rt rm) (hSC : mj_SC g b Ln xs) (hd : decode cc pc = .ok (.arraylength, 1)) (kk : mj_X g (pc + 1) L (vI (Int32.ofNat Ln) :: st) M k n) : mj_X g pc L (vR (b + 1) :: st) M k n := by
  obtain ⟨p, l, e, R, s, m, args, below, meth, c, Q, base, D, A⟩ := g
  obtain ⟨hX, hbl, hbs⟩ := hSC
  intro H ls lc hR hl hS
  exact va_slen (A := fun q => base ≤ q) hC.1 hC.2.1 hX hbl (by show ¬ base ≤ b; omega) hS hd (kk H ls lc hR hl hS)
theorem mx_sld {i : Int32} (hC : mj_C g y cc nL rt rm) (hSC : mj_SC g b Ln xs) (hin : vp_in i Ln) (hd : decode cc pc = .ok (.iaload, 1)) (kk : mj_X g (pc + 1) L (vI (xs i.toNatClampNeg) :: st) M k n) : mj_X g pc L (vI i :: vR (b + 1) :: st) M k n := by
  obtain ⟨p, l, e, R, s, m, args, below, meth, c, Q, base, D, A⟩ := g
  obtain ⟨hX, hbl, hbs⟩ := hSC
  intro H ls lc hR hl hS
  exact va_sld (A := fun q => base ≤ q) hC.1 hC.2.1 hX hbl (by show ¬ base ≤ b; omega) hS hin hd (kk H ls lc hR hl hS)
theorem mx_lwret (hC : mj_C g y code nL rt room_1) (hE : mj_EL g) (hd : decode code pc = .ok (.ireturn, 1)) (hk : k ≤ 600000) (hn : n ≤ 7302250) : mj_X g pc L [vI 1] M k n := by
  obtain ⟨p, l, e, R, s, m, args, below, meth, c, Q, base, D, A⟩ := g
  obtain ⟨hx, hb, hml, hr, hown, hnm, hRm, hts, hK, hN, hZ, hbs, hlk⟩ := hC
  obtain ⟨⟨b, rfl⟩, h2, rfl, rfl⟩ := hE
  subst hRm
  intro H ls lc hR hl hS
  exact va_forget hS.2.2 (W.widen hk hn (lw_ret hx hb h2 hlk hd))
end MJLAW

theorem tw1003 : (Jvm.Cond.methodLink "LeaseLandLaw" (152 : Nat) ({ cls := "LeaseLand", name := "worth", desc := "(I)I" } : Jvm.MethodName)) ∈ mj_tbl := mj_w 1056 (by decide +kernel) (by decide +kernel)
theorem tw1026 : (Jvm.Cond.methodLink "LeaseLandLaw" (156 : Nat) ({ cls := "LeaseLand", name := "sale", desc := "(II)I" } : Jvm.MethodName)) ∈ mj_tbl := mj_w 1079 (by decide +kernel) (by decide +kernel)
theorem tw1034 : (Jvm.Cond.methodLink "LeaseLandLaw" (160 : Nat) ({ cls := "LeaseLand", name := "learned", desc := "(III)J" } : Jvm.MethodName)) ∈ mj_tbl := mj_w 1087 (by decide +kernel) (by decide +kernel)
theorem tw1061 : (Jvm.Cond.methodLink "LeaseLandLaw" (164 : Nat) ({ cls := "LeaseLand", name := "doubt", desc := "(I)J" } : Jvm.MethodName)) ∈ mj_tbl := mj_w 1114 (by decide +kernel) (by decide +kernel)
theorem tw1073 : (Jvm.Cond.methodLink "LeaseLandLaw" (169 : Nat) ({ cls := "LeaseLand", name := "set", desc := "(II)I" } : Jvm.MethodName)) ∈ mj_tbl := mj_w 1126 (by decide +kernel) (by decide +kernel)
theorem tw1077 : (Jvm.Cond.methodLink "LeaseLandLaw" (173 : Nat) ({ cls := "LeaseLand", name := "price", desc := "(II)J" } : Jvm.MethodName)) ∈ mj_tbl := mj_w 1130 (by decide +kernel) (by decide +kernel)
theorem tw1095 : (Jvm.Cond.methodLink "LeaseLandLaw" (178 : Nat) ({ cls := "LeaseLand", name := "share", desc := "(II)J" } : Jvm.MethodName)) ∈ mj_tbl := mj_w 1148 (by decide +kernel) (by decide +kernel)
theorem tw1104 : (Jvm.Cond.methodLink "LeaseLandLaw" (182 : Nat) ({ cls := "LeaseLand", name := "may", desc := "(II)I" } : Jvm.MethodName)) ∈ mj_tbl := mj_w 1157 (by decide +kernel) (by decide +kernel)
theorem tw1131 : (Jvm.Cond.methodLink "LeaseLandLaw" (186 : Nat) ({ cls := "LeaseLand", name := "more", desc := "(II)I" } : Jvm.MethodName)) ∈ mj_tbl := mj_w 1184 (by decide +kernel) (by decide +kernel)
theorem tw1135 : (Jvm.Cond.methodLink "LeaseLandLaw" (190 : Nat) ({ cls := "LeaseLand", name := "breach", desc := "(IZ)I" } : Jvm.MethodName)) ∈ mj_tbl := mj_w 1188 (by decide +kernel) (by decide +kernel)
theorem tw1139 : (Jvm.Cond.methodLink "LeaseLandLaw" (194 : Nat) ({ cls := "LeaseLand", name := "forfeit", desc := "(I)I" } : Jvm.MethodName)) ∈ mj_tbl := mj_w 1192 (by decide +kernel) (by decide +kernel)
theorem tw1144 : (Jvm.Cond.methodLink "LeaseLandLaw" (198 : Nat) ({ cls := "LeaseLand", name := "relieve", desc := "(I)I" } : Jvm.MethodName)) ∈ mj_tbl := mj_w 1197 (by decide +kernel) (by decide +kernel)
theorem tw1157 : (Jvm.Cond.methodLink "LeaseLandLaw" (202 : Nat) ({ cls := "LeaseLand", name := "line", desc := "(IIII)I" } : Jvm.MethodName)) ∈ mj_tbl := mj_w 1210 (by decide +kernel) (by decide +kernel)
theorem tw1172 : (Jvm.Cond.methodLink "LeaseLandLaw" (207 : Nat) ({ cls := "LeaseLand", name := "can", desc := "(I)I" } : Jvm.MethodName)) ∈ mj_tbl := mj_w 1225 (by decide +kernel) (by decide +kernel)
theorem tw1188 : (Jvm.Cond.methodLink "LeaseLandLaw" (211 : Nat) ({ cls := "LeaseLand", name := "doubted", desc := "(I)I" } : Jvm.MethodName)) ∈ mj_tbl := mj_w 1241 (by decide +kernel) (by decide +kernel)
theorem tw1199 : (Jvm.Cond.methodLink "LeaseLandLaw" (215 : Nat) ({ cls := "LeaseLand", name := "told", desc := "(I)I" } : Jvm.MethodName)) ∈ mj_tbl := mj_w 1252 (by decide +kernel) (by decide +kernel)
theorem tw1203 : (Jvm.Cond.classLink "LeaseLandLaw" (10 : Nat) "LeaseLandModel") ∈ mj_tbl := mj_w 1256 (by decide +kernel) (by decide +kernel)
theorem tw1204 : (Jvm.Cond.instantiable "LeaseLandModel" (54 : Nat)) ∈ mj_tbl := mj_w 1257 (by decide +kernel) (by decide +kernel)
theorem tw1205 : (Jvm.Cond.methodLink "LeaseLandLaw" (12 : Nat) ({ cls := "LeaseLandModel", name := "<init>", desc := "()V" } : Jvm.MethodName)) ∈ mj_tbl := mj_w 1258 (by decide +kernel) (by decide +kernel)
theorem tw1374 : (Jvm.Cond.methodLink "LeaseLandLaw" (17 : Nat) ({ cls := "LeaseLandModel", name := "today", desc := "(I)I" } : Jvm.MethodName)) ∈ mj_tbl := mj_w 1427 (by decide +kernel) (by decide +kernel)
theorem tw1382 : (Jvm.Cond.methodLink "LeaseLandLaw" (22 : Nat) ({ cls := "LeaseLandModel", name := "whole", desc := "(II)I" } : Jvm.MethodName)) ∈ mj_tbl := mj_w 1435 (by decide +kernel) (by decide +kernel)
theorem tw1399 : (Jvm.Cond.methodLink "LeaseLandLaw" (27 : Nat) ({ cls := "LeaseLandModel", name := "lease", desc := "(IIIII)I" } : Jvm.MethodName)) ∈ mj_tbl := mj_w 1452 (by decide +kernel) (by decide +kernel)
theorem tw1432 : (Jvm.Cond.methodLink "LeaseLandLaw" (31 : Nat) ({ cls := "LeaseLandModel", name := "between", desc := "(IIIII)I" } : Jvm.MethodName)) ∈ mj_tbl := mj_w 1485 (by decide +kernel) (by decide +kernel)
theorem tw1436 : (Jvm.Cond.methodLink "LeaseLandLaw" (35 : Nat) ({ cls := "LeaseLandModel", name := "sell", desc := "(II)I" } : Jvm.MethodName)) ∈ mj_tbl := mj_w 1489 (by decide +kernel) (by decide +kernel)
theorem tw1444 : (Jvm.Cond.methodLink "LeaseLandLaw" (40 : Nat) ({ cls := "LeaseLandModel", name := "part", desc := "(III)I" } : Jvm.MethodName)) ∈ mj_tbl := mj_w 1497 (by decide +kernel) (by decide +kernel)
theorem tw1456 : (Jvm.Cond.methodLink "LeaseLandLaw" (44 : Nat) ({ cls := "LeaseLandModel", name := "end", desc := "(II)I" } : Jvm.MethodName)) ∈ mj_tbl := mj_w 1509 (by decide +kernel) (by decide +kernel)
theorem tw1468 : (Jvm.Cond.methodLink "LeaseLandLaw" (48 : Nat) ({ cls := "LeaseLandModel", name := "about", desc := "(II)I" } : Jvm.MethodName)) ∈ mj_tbl := mj_w 1521 (by decide +kernel) (by decide +kernel)
theorem tw1476 : (Jvm.Cond.methodLink "LeaseLandLaw" (52 : Nat) ({ cls := "LeaseLandModel", name := "chain", desc := "(II)I" } : Jvm.MethodName)) ∈ mj_tbl := mj_w 1529 (by decide +kernel) (by decide +kernel)
theorem tw1488 : (Jvm.Cond.methodLink "LeaseLandLaw" (56 : Nat) ({ cls := "LeaseLandModel", name := "live", desc := "(II)I" } : Jvm.MethodName)) ∈ mj_tbl := mj_w 1541 (by decide +kernel) (by decide +kernel)
theorem tw1492 : (Jvm.Cond.methodLink "LeaseLandLaw" (60 : Nat) ({ cls := "LeaseLandModel", name := "rent", desc := "(III)I" } : Jvm.MethodName)) ∈ mj_tbl := mj_w 1545 (by decide +kernel) (by decide +kernel)
theorem tw1498 : (Jvm.Cond.methodLink "LeaseLandLaw" (64 : Nat) ({ cls := "LeaseLandModel", name := "rate", desc := "(II)I" } : Jvm.MethodName)) ∈ mj_tbl := mj_w 1551 (by decide +kernel) (by decide +kernel)
theorem tw1509 : (Jvm.Cond.methodLink "LeaseLandLaw" (69 : Nat) ({ cls := "LeaseLandModel", name := "owed", desc := "(III)J" } : Jvm.MethodName)) ∈ mj_tbl := mj_w 1562 (by decide +kernel) (by decide +kernel)
theorem tw1516 : (Jvm.Cond.methodLink "LeaseLandLaw" (73 : Nat) ({ cls := "LeaseLandModel", name := "weight", desc := "(II)I" } : Jvm.MethodName)) ∈ mj_tbl := mj_w 1569 (by decide +kernel) (by decide +kernel)
theorem tw1520 : (Jvm.Cond.methodLink "LeaseLandLaw" (77 : Nat) ({ cls := "LeaseLandModel", name := "say", desc := "(I)I" } : Jvm.MethodName)) ∈ mj_tbl := mj_w 1573 (by decide +kernel) (by decide +kernel)
theorem tw1526 : (Jvm.Cond.methodLink "LeaseLandLaw" (82 : Nat) ({ cls := "LeaseLandModel", name := "wipe", desc := "()I" } : Jvm.MethodName)) ∈ mj_tbl := mj_w 1579 (by decide +kernel) (by decide +kernel)
theorem tw1530 : (Jvm.Cond.methodLink "LeaseLandLaw" (86 : Nat) ({ cls := "LeaseLandModel", name := "fault", desc := "()I" } : Jvm.MethodName)) ∈ mj_tbl := mj_w 1583 (by decide +kernel) (by decide +kernel)
theorem tw1549 : (Jvm.Cond.methodLink "LeaseLandLaw" (90 : Nat) ({ cls := "LeaseLandModel", name := "act", desc := "(II)I" } : Jvm.MethodName)) ∈ mj_tbl := mj_w 1602 (by decide +kernel) (by decide +kernel)
theorem tw1557 : (Jvm.Cond.methodLink "LeaseLandLaw" (94 : Nat) ({ cls := "LeaseLandModel", name := "right", desc := "(II)I" } : Jvm.MethodName)) ∈ mj_tbl := mj_w 1610 (by decide +kernel) (by decide +kernel)
theorem tw1592 : (Jvm.Cond.methodLink "LeaseLandLaw" (98 : Nat) ({ cls := "LeaseLandModel", name := "decisive", desc := "(II)I" } : Jvm.MethodName)) ∈ mj_tbl := mj_w 1645 (by decide +kernel) (by decide +kernel)
theorem tw1596 : (Jvm.Cond.methodLink "LeaseLandLaw" (102 : Nat) ({ cls := "LeaseLandModel", name := "fact", desc := "(II)I" } : Jvm.MethodName)) ∈ mj_tbl := mj_w 1649 (by decide +kernel) (by decide +kernel)
theorem tw1600 : (Jvm.Cond.methodLink "LeaseLandLaw" (106 : Nat) ({ cls := "LeaseLandModel", name := "first", desc := "(II)I" } : Jvm.MethodName)) ∈ mj_tbl := mj_w 1653 (by decide +kernel) (by decide +kernel)
theorem tw1604 : (Jvm.Cond.methodLink "LeaseLandLaw" (110 : Nat) ({ cls := "LeaseLandModel", name := "notice", desc := "(II)I" } : Jvm.MethodName)) ∈ mj_tbl := mj_w 1657 (by decide +kernel) (by decide +kernel)
theorem tw1616 : (Jvm.Cond.methodLink "LeaseLandLaw" (115 : Nat) ({ cls := "LeaseLandModel", name := "answer", desc := "(IZ)I" } : Jvm.MethodName)) ∈ mj_tbl := mj_w 1669 (by decide +kernel) (by decide +kernel)
theorem tw1624 : (Jvm.Cond.methodLink "LeaseLandLaw" (119 : Nat) ({ cls := "LeaseLandModel", name := "withdraw", desc := "(I)I" } : Jvm.MethodName)) ∈ mj_tbl := mj_w 1677 (by decide +kernel) (by decide +kernel)
theorem tw1628 : (Jvm.Cond.methodLink "LeaseLandLaw" (123 : Nat) ({ cls := "LeaseLandModel", name := "tribunal", desc := "(IZ)I" } : Jvm.MethodName)) ∈ mj_tbl := mj_w 1681 (by decide +kernel) (by decide +kernel)
theorem tw1632 : (Jvm.Cond.methodLink "LeaseLandLaw" (127 : Nat) ({ cls := "LeaseLandModel", name := "status", desc := "(I)I" } : Jvm.MethodName)) ∈ mj_tbl := mj_w 1685 (by decide +kernel) (by decide +kernel)
theorem tw1636 : (Jvm.Cond.methodLink "LeaseLandLaw" (131 : Nat) ({ cls := "LeaseLandModel", name := "carry", desc := "(I)I" } : Jvm.MethodName)) ∈ mj_tbl := mj_w 1689 (by decide +kernel) (by decide +kernel)
theorem tw1673 : (Jvm.Cond.methodLink "LeaseLandLaw" (135 : Nat) ({ cls := "LeaseLandModel", name := "stay", desc := "(I)I" } : Jvm.MethodName)) ∈ mj_tbl := mj_w 1726 (by decide +kernel) (by decide +kernel)
theorem tw1677 : (Jvm.Cond.methodLink "LeaseLandLaw" (139 : Nat) ({ cls := "LeaseLandModel", name := "value", desc := "(II)I" } : Jvm.MethodName)) ∈ mj_tbl := mj_w 1730 (by decide +kernel) (by decide +kernel)
theorem tw1682 : (Jvm.Cond.methodLink "LeaseLandLaw" (143 : Nat) ({ cls := "LeaseLandModel", name := "point", desc := "(II)I" } : Jvm.MethodName)) ∈ mj_tbl := mj_w 1735 (by decide +kernel) (by decide +kernel)
theorem tw1688 : (Jvm.Cond.methodLink "LeaseLandLaw" (147 : Nat) ({ cls := "LeaseLandModel", name := "blank", desc := "()I" } : Jvm.MethodName)) ∈ mj_tbl := mj_w 1741 (by decide +kernel) (by decide +kernel)
theorem tw1692 : (Jvm.Cond.methodLink "LeaseLandLaw" (151 : Nat) ({ cls := "LeaseLandModel", name := "table", desc := "(I)I" } : Jvm.MethodName)) ∈ mj_tbl := mj_w 1745 (by decide +kernel) (by decide +kernel)
theorem tw1700 : (Jvm.Cond.methodLink "LeaseLandLaw" (155 : Nat) ({ cls := "LeaseLandModel", name := "worth", desc := "(I)I" } : Jvm.MethodName)) ∈ mj_tbl := mj_w 1753 (by decide +kernel) (by decide +kernel)
theorem tw1716 : (Jvm.Cond.methodLink "LeaseLandLaw" (159 : Nat) ({ cls := "LeaseLandModel", name := "sale", desc := "(II)I" } : Jvm.MethodName)) ∈ mj_tbl := mj_w 1769 (by decide +kernel) (by decide +kernel)
theorem tw1720 : (Jvm.Cond.methodLink "LeaseLandLaw" (163 : Nat) ({ cls := "LeaseLandModel", name := "learned", desc := "(III)J" } : Jvm.MethodName)) ∈ mj_tbl := mj_w 1773 (by decide +kernel) (by decide +kernel)
theorem tw1735 : (Jvm.Cond.methodLink "LeaseLandLaw" (168 : Nat) ({ cls := "LeaseLandModel", name := "doubt", desc := "(I)J" } : Jvm.MethodName)) ∈ mj_tbl := mj_w 1788 (by decide +kernel) (by decide +kernel)
theorem tw1739 : (Jvm.Cond.methodLink "LeaseLandLaw" (172 : Nat) ({ cls := "LeaseLandModel", name := "set", desc := "(II)I" } : Jvm.MethodName)) ∈ mj_tbl := mj_w 1792 (by decide +kernel) (by decide +kernel)
theorem tw1744 : (Jvm.Cond.methodLink "LeaseLandLaw" (177 : Nat) ({ cls := "LeaseLandModel", name := "price", desc := "(II)J" } : Jvm.MethodName)) ∈ mj_tbl := mj_w 1797 (by decide +kernel) (by decide +kernel)
theorem tw1754 : (Jvm.Cond.methodLink "LeaseLandLaw" (181 : Nat) ({ cls := "LeaseLandModel", name := "share", desc := "(II)J" } : Jvm.MethodName)) ∈ mj_tbl := mj_w 1807 (by decide +kernel) (by decide +kernel)
theorem tw1763 : (Jvm.Cond.methodLink "LeaseLandLaw" (185 : Nat) ({ cls := "LeaseLandModel", name := "may", desc := "(II)I" } : Jvm.MethodName)) ∈ mj_tbl := mj_w 1816 (by decide +kernel) (by decide +kernel)
theorem tw1784 : (Jvm.Cond.methodLink "LeaseLandLaw" (189 : Nat) ({ cls := "LeaseLandModel", name := "more", desc := "(II)I" } : Jvm.MethodName)) ∈ mj_tbl := mj_w 1837 (by decide +kernel) (by decide +kernel)
theorem tw1788 : (Jvm.Cond.methodLink "LeaseLandLaw" (193 : Nat) ({ cls := "LeaseLandModel", name := "breach", desc := "(IZ)I" } : Jvm.MethodName)) ∈ mj_tbl := mj_w 1841 (by decide +kernel) (by decide +kernel)
theorem tw1792 : (Jvm.Cond.methodLink "LeaseLandLaw" (197 : Nat) ({ cls := "LeaseLandModel", name := "forfeit", desc := "(I)I" } : Jvm.MethodName)) ∈ mj_tbl := mj_w 1845 (by decide +kernel) (by decide +kernel)
theorem tw1796 : (Jvm.Cond.methodLink "LeaseLandLaw" (201 : Nat) ({ cls := "LeaseLandModel", name := "relieve", desc := "(I)I" } : Jvm.MethodName)) ∈ mj_tbl := mj_w 1849 (by decide +kernel) (by decide +kernel)
theorem tw1800 : (Jvm.Cond.methodLink "LeaseLandLaw" (206 : Nat) ({ cls := "LeaseLandModel", name := "line", desc := "(IIII)I" } : Jvm.MethodName)) ∈ mj_tbl := mj_w 1853 (by decide +kernel) (by decide +kernel)
theorem tw1804 : (Jvm.Cond.methodLink "LeaseLandLaw" (210 : Nat) ({ cls := "LeaseLandModel", name := "can", desc := "(I)I" } : Jvm.MethodName)) ∈ mj_tbl := mj_w 1857 (by decide +kernel) (by decide +kernel)
theorem tw1820 : (Jvm.Cond.methodLink "LeaseLandLaw" (214 : Nat) ({ cls := "LeaseLandModel", name := "doubted", desc := "(I)I" } : Jvm.MethodName)) ∈ mj_tbl := mj_w 1873 (by decide +kernel) (by decide +kernel)
theorem tw1824 : (Jvm.Cond.methodLink "LeaseLandLaw" (218 : Nat) ({ cls := "LeaseLandModel", name := "told", desc := "(I)I" } : Jvm.MethodName)) ∈ mj_tbl := mj_w 1877 (by decide +kernel) (by decide +kernel)
theorem tw23 : (Jvm.Cond.classLink "LeaseLandLaw" (7 : Nat) "LeaseLand") ∈ mj_tbl := mj_w 76 (by decide +kernel) (by decide +kernel)
theorem tw24 : (Jvm.Cond.instantiable "LeaseLand" (8 : Nat)) ∈ mj_tbl := mj_w 77 (by decide +kernel) (by decide +kernel)
theorem tw25 : (Jvm.Cond.methodLink "LeaseLandLaw" (9 : Nat) ({ cls := "LeaseLand", name := "<init>", desc := "()V" } : Jvm.MethodName)) ∈ mj_tbl := mj_w 78 (by decide +kernel) (by decide +kernel)
theorem tw286 : (Jvm.Cond.methodLink "LeaseLandLaw" (13 : Nat) ({ cls := "LeaseLand", name := "today", desc := "(I)I" } : Jvm.MethodName)) ∈ mj_tbl := mj_w 339 (by decide +kernel) (by decide +kernel)
theorem tw294 : (Jvm.Cond.methodLink "LeaseLandLaw" (18 : Nat) ({ cls := "LeaseLand", name := "whole", desc := "(II)I" } : Jvm.MethodName)) ∈ mj_tbl := mj_w 347 (by decide +kernel) (by decide +kernel)
theorem tw393 : (Jvm.Cond.methodLink "LeaseLandLaw" (23 : Nat) ({ cls := "LeaseLand", name := "lease", desc := "(IIIII)I" } : Jvm.MethodName)) ∈ mj_tbl := mj_w 446 (by decide +kernel) (by decide +kernel)
theorem tw435 : (Jvm.Cond.methodLink "LeaseLandLaw" (28 : Nat) ({ cls := "LeaseLand", name := "between", desc := "(IIIII)I" } : Jvm.MethodName)) ∈ mj_tbl := mj_w 488 (by decide +kernel) (by decide +kernel)
theorem tw454 : (Jvm.Cond.methodLink "LeaseLandLaw" (32 : Nat) ({ cls := "LeaseLand", name := "sell", desc := "(II)I" } : Jvm.MethodName)) ∈ mj_tbl := mj_w 507 (by decide +kernel) (by decide +kernel)
theorem tw466 : (Jvm.Cond.methodLink "LeaseLandLaw" (36 : Nat) ({ cls := "LeaseLand", name := "part", desc := "(III)I" } : Jvm.MethodName)) ∈ mj_tbl := mj_w 519 (by decide +kernel) (by decide +kernel)
theorem tw490 : (Jvm.Cond.methodLink "LeaseLandLaw" (41 : Nat) ({ cls := "LeaseLand", name := "end", desc := "(II)I" } : Jvm.MethodName)) ∈ mj_tbl := mj_w 543 (by decide +kernel) (by decide +kernel)
theorem tw502 : (Jvm.Cond.methodLink "LeaseLandLaw" (45 : Nat) ({ cls := "LeaseLand", name := "about", desc := "(II)I" } : Jvm.MethodName)) ∈ mj_tbl := mj_w 555 (by decide +kernel) (by decide +kernel)
theorem tw511 : (Jvm.Cond.methodLink "LeaseLandLaw" (49 : Nat) ({ cls := "LeaseLand", name := "chain", desc := "(II)I" } : Jvm.MethodName)) ∈ mj_tbl := mj_w 564 (by decide +kernel) (by decide +kernel)
theorem tw526 : (Jvm.Cond.methodLink "LeaseLandLaw" (53 : Nat) ({ cls := "LeaseLand", name := "live", desc := "(II)I" } : Jvm.MethodName)) ∈ mj_tbl := mj_w 579 (by decide +kernel) (by decide +kernel)
theorem tw530 : (Jvm.Cond.methodLink "LeaseLandLaw" (57 : Nat) ({ cls := "LeaseLand", name := "rent", desc := "(III)I" } : Jvm.MethodName)) ∈ mj_tbl := mj_w 583 (by decide +kernel) (by decide +kernel)
theorem tw535 : (Jvm.Cond.methodLink "LeaseLandLaw" (61 : Nat) ({ cls := "LeaseLand", name := "rate", desc := "(II)I" } : Jvm.MethodName)) ∈ mj_tbl := mj_w 588 (by decide +kernel) (by decide +kernel)
theorem tw544 : (Jvm.Cond.methodLink "LeaseLandLaw" (65 : Nat) ({ cls := "LeaseLand", name := "owed", desc := "(III)J" } : Jvm.MethodName)) ∈ mj_tbl := mj_w 597 (by decide +kernel) (by decide +kernel)
theorem tw557 : (Jvm.Cond.methodLink "LeaseLandLaw" (70 : Nat) ({ cls := "LeaseLand", name := "weight", desc := "(II)I" } : Jvm.MethodName)) ∈ mj_tbl := mj_w 610 (by decide +kernel) (by decide +kernel)
theorem tw561 : (Jvm.Cond.methodLink "LeaseLandLaw" (74 : Nat) ({ cls := "LeaseLand", name := "say", desc := "(I)I" } : Jvm.MethodName)) ∈ mj_tbl := mj_w 614 (by decide +kernel) (by decide +kernel)
theorem tw572 : (Jvm.Cond.methodLink "LeaseLandLaw" (78 : Nat) ({ cls := "LeaseLand", name := "wipe", desc := "()I" } : Jvm.MethodName)) ∈ mj_tbl := mj_w 625 (by decide +kernel) (by decide +kernel)
theorem tw576 : (Jvm.Cond.methodLink "LeaseLandLaw" (83 : Nat) ({ cls := "LeaseLand", name := "fault", desc := "()I" } : Jvm.MethodName)) ∈ mj_tbl := mj_w 629 (by decide +kernel) (by decide +kernel)
theorem tw709 : (Jvm.Cond.methodLink "LeaseLandLaw" (87 : Nat) ({ cls := "LeaseLand", name := "act", desc := "(II)I" } : Jvm.MethodName)) ∈ mj_tbl := mj_w 762 (by decide +kernel) (by decide +kernel)
theorem tw757 : (Jvm.Cond.methodLink "LeaseLandLaw" (91 : Nat) ({ cls := "LeaseLand", name := "right", desc := "(II)I" } : Jvm.MethodName)) ∈ mj_tbl := mj_w 810 (by decide +kernel) (by decide +kernel)
theorem tw820 : (Jvm.Cond.methodLink "LeaseLandLaw" (95 : Nat) ({ cls := "LeaseLand", name := "decisive", desc := "(II)I" } : Jvm.MethodName)) ∈ mj_tbl := mj_w 873 (by decide +kernel) (by decide +kernel)
theorem tw824 : (Jvm.Cond.methodLink "LeaseLandLaw" (99 : Nat) ({ cls := "LeaseLand", name := "fact", desc := "(II)I" } : Jvm.MethodName)) ∈ mj_tbl := mj_w 877 (by decide +kernel) (by decide +kernel)
theorem tw830 : (Jvm.Cond.methodLink "LeaseLandLaw" (103 : Nat) ({ cls := "LeaseLand", name := "first", desc := "(II)I" } : Jvm.MethodName)) ∈ mj_tbl := mj_w 883 (by decide +kernel) (by decide +kernel)
theorem tw840 : (Jvm.Cond.methodLink "LeaseLandLaw" (107 : Nat) ({ cls := "LeaseLand", name := "notice", desc := "(II)I" } : Jvm.MethodName)) ∈ mj_tbl := mj_w 893 (by decide +kernel) (by decide +kernel)
theorem tw896 : (Jvm.Cond.methodLink "LeaseLandLaw" (111 : Nat) ({ cls := "LeaseLand", name := "answer", desc := "(IZ)I" } : Jvm.MethodName)) ∈ mj_tbl := mj_w 949 (by decide +kernel) (by decide +kernel)
theorem tw909 : (Jvm.Cond.methodLink "LeaseLandLaw" (116 : Nat) ({ cls := "LeaseLand", name := "withdraw", desc := "(I)I" } : Jvm.MethodName)) ∈ mj_tbl := mj_w 962 (by decide +kernel) (by decide +kernel)
theorem tw914 : (Jvm.Cond.methodLink "LeaseLandLaw" (120 : Nat) ({ cls := "LeaseLand", name := "tribunal", desc := "(IZ)I" } : Jvm.MethodName)) ∈ mj_tbl := mj_w 967 (by decide +kernel) (by decide +kernel)
theorem tw918 : (Jvm.Cond.methodLink "LeaseLandLaw" (124 : Nat) ({ cls := "LeaseLand", name := "status", desc := "(I)I" } : Jvm.MethodName)) ∈ mj_tbl := mj_w 971 (by decide +kernel) (by decide +kernel)
theorem tw922 : (Jvm.Cond.methodLink "LeaseLandLaw" (128 : Nat) ({ cls := "LeaseLand", name := "carry", desc := "(I)I" } : Jvm.MethodName)) ∈ mj_tbl := mj_w 975 (by decide +kernel) (by decide +kernel)
theorem tw963 : (Jvm.Cond.methodLink "LeaseLandLaw" (132 : Nat) ({ cls := "LeaseLand", name := "stay", desc := "(I)I" } : Jvm.MethodName)) ∈ mj_tbl := mj_w 1016 (by decide +kernel) (by decide +kernel)
theorem tw968 : (Jvm.Cond.methodLink "LeaseLandLaw" (136 : Nat) ({ cls := "LeaseLand", name := "value", desc := "(II)I" } : Jvm.MethodName)) ∈ mj_tbl := mj_w 1021 (by decide +kernel) (by decide +kernel)
theorem tw973 : (Jvm.Cond.methodLink "LeaseLandLaw" (140 : Nat) ({ cls := "LeaseLand", name := "point", desc := "(II)I" } : Jvm.MethodName)) ∈ mj_tbl := mj_w 1026 (by decide +kernel) (by decide +kernel)
theorem tw988 : (Jvm.Cond.methodLink "LeaseLandLaw" (144 : Nat) ({ cls := "LeaseLand", name := "blank", desc := "()I" } : Jvm.MethodName)) ∈ mj_tbl := mj_w 1041 (by decide +kernel) (by decide +kernel)
theorem tw992 : (Jvm.Cond.methodLink "LeaseLandLaw" (148 : Nat) ({ cls := "LeaseLand", name := "table", desc := "(I)I" } : Jvm.MethodName)) ∈ mj_tbl := mj_w 1045 (by decide +kernel) (by decide +kernel)
theorem tw505 : (Jvm.Cond.code ({ cls := "LeaseLand", name := "about", desc := "(II)I" } : Jvm.MethodName) prog_1_method_10_code (4 : Nat) (Option.some Jvm.ClassFile.FieldType.int)) ∈ mj_tbl := mj_w 558 (by decide +kernel) (by decide +kernel)
theorem tw503 : (Jvm.Cond.instanceMethod ({ cls := "LeaseLand", name := "about", desc := "(II)I" } : Jvm.MethodName)) ∈ mj_tbl := mj_w 556 (by decide +kernel) (by decide +kernel)
theorem tw504 : (Jvm.Cond.selects "LeaseLand" ({ cls := "LeaseLand", name := "about", desc := "(II)I" } : Jvm.MethodName) ({ cls := "LeaseLand", name := "about", desc := "(II)I" } : Jvm.MethodName)) ∈ mj_tbl := mj_w 557 (by decide +kernel) (by decide +kernel)
theorem ty_X11_about : mj_YV 11 yX11_about cX11_about 4 (some .int) 2 := ⟨⟨tw505, tw1, by decide +kernel, by decide +kernel, by decide +kernel⟩, tw503, tw504, _, rfl, rfl⟩
theorem tw712 : (Jvm.Cond.code ({ cls := "LeaseLand", name := "act", desc := "(II)I" } : Jvm.MethodName) prog_1_method_20_code (3 : Nat) (Option.some Jvm.ClassFile.FieldType.int)) ∈ mj_tbl := mj_w 765 (by decide +kernel) (by decide +kernel)
theorem tw710 : (Jvm.Cond.instanceMethod ({ cls := "LeaseLand", name := "act", desc := "(II)I" } : Jvm.MethodName)) ∈ mj_tbl := mj_w 763 (by decide +kernel) (by decide +kernel)
theorem tw711 : (Jvm.Cond.selects "LeaseLand" ({ cls := "LeaseLand", name := "act", desc := "(II)I" } : Jvm.MethodName) ({ cls := "LeaseLand", name := "act", desc := "(II)I" } : Jvm.MethodName)) ∈ mj_tbl := mj_w 764 (by decide +kernel) (by decide +kernel)
theorem ty_X11_act : mj_YV 11 yX11_act cX11_act 3 (some .int) 2 := ⟨⟨tw712, tw1, by decide +kernel, by decide +kernel, by decide +kernel⟩, tw710, tw711, _, rfl, rfl⟩
theorem tw899 : (Jvm.Cond.code ({ cls := "LeaseLand", name := "answer", desc := "(IZ)I" } : Jvm.MethodName) prog_1_method_28_code (3 : Nat) (Option.some Jvm.ClassFile.FieldType.int)) ∈ mj_tbl := mj_w 952 (by decide +kernel) (by decide +kernel)
theorem tw897 : (Jvm.Cond.instanceMethod ({ cls := "LeaseLand", name := "answer", desc := "(IZ)I" } : Jvm.MethodName)) ∈ mj_tbl := mj_w 950 (by decide +kernel) (by decide +kernel)
theorem tw898 : (Jvm.Cond.selects "LeaseLand" ({ cls := "LeaseLand", name := "answer", desc := "(IZ)I" } : Jvm.MethodName) ({ cls := "LeaseLand", name := "answer", desc := "(IZ)I" } : Jvm.MethodName)) ∈ mj_tbl := mj_w 951 (by decide +kernel) (by decide +kernel)
theorem ty_X11_answer : mj_YV 11 yX11_answer cX11_answer 3 (some .int) 2 := ⟨⟨tw899, tw1, by decide +kernel, by decide +kernel, by decide +kernel⟩, tw897, tw898, _, rfl, rfl⟩
theorem tw438 : (Jvm.Cond.code ({ cls := "LeaseLand", name := "between", desc := "(IIIII)I" } : Jvm.MethodName) prog_1_method_5_code (8 : Nat) (Option.some Jvm.ClassFile.FieldType.int)) ∈ mj_tbl := mj_w 491 (by decide +kernel) (by decide +kernel)
theorem tw436 : (Jvm.Cond.instanceMethod ({ cls := "LeaseLand", name := "between", desc := "(IIIII)I" } : Jvm.MethodName)) ∈ mj_tbl := mj_w 489 (by decide +kernel) (by decide +kernel)
theorem tw437 : (Jvm.Cond.selects "LeaseLand" ({ cls := "LeaseLand", name := "between", desc := "(IIIII)I" } : Jvm.MethodName) ({ cls := "LeaseLand", name := "between", desc := "(IIIII)I" } : Jvm.MethodName)) ∈ mj_tbl := mj_w 490 (by decide +kernel) (by decide +kernel)
theorem ty_X11_between : mj_YV 11 yX11_between cX11_between 8 (some .int) 5 := ⟨⟨tw438, tw1, by decide +kernel, by decide +kernel, by decide +kernel⟩, tw436, tw437, _, rfl, rfl⟩
theorem tw991 : (Jvm.Cond.code ({ cls := "LeaseLand", name := "blank", desc := "()I" } : Jvm.MethodName) prog_1_method_37_code (2 : Nat) (Option.some Jvm.ClassFile.FieldType.int)) ∈ mj_tbl := mj_w 1044 (by decide +kernel) (by decide +kernel)
theorem tw989 : (Jvm.Cond.instanceMethod ({ cls := "LeaseLand", name := "blank", desc := "()I" } : Jvm.MethodName)) ∈ mj_tbl := mj_w 1042 (by decide +kernel) (by decide +kernel)
theorem tw990 : (Jvm.Cond.selects "LeaseLand" ({ cls := "LeaseLand", name := "blank", desc := "()I" } : Jvm.MethodName) ({ cls := "LeaseLand", name := "blank", desc := "()I" } : Jvm.MethodName)) ∈ mj_tbl := mj_w 1043 (by decide +kernel) (by decide +kernel)
theorem ty_X11_blank : mj_YV 11 yX11_blank cX11_blank 2 (some .int) 0 := ⟨⟨tw991, tw1, by decide +kernel, by decide +kernel, by decide +kernel⟩, tw989, tw990, _, rfl, rfl⟩
theorem tw1138 : (Jvm.Cond.code ({ cls := "LeaseLand", name := "breach", desc := "(IZ)I" } : Jvm.MethodName) prog_1_method_50_code (4 : Nat) (Option.some Jvm.ClassFile.FieldType.int)) ∈ mj_tbl := mj_w 1191 (by decide +kernel) (by decide +kernel)
theorem tw1136 : (Jvm.Cond.instanceMethod ({ cls := "LeaseLand", name := "breach", desc := "(IZ)I" } : Jvm.MethodName)) ∈ mj_tbl := mj_w 1189 (by decide +kernel) (by decide +kernel)
theorem tw1137 : (Jvm.Cond.selects "LeaseLand" ({ cls := "LeaseLand", name := "breach", desc := "(IZ)I" } : Jvm.MethodName) ({ cls := "LeaseLand", name := "breach", desc := "(IZ)I" } : Jvm.MethodName)) ∈ mj_tbl := mj_w 1190 (by decide +kernel) (by decide +kernel)
theorem ty_X11_breach : mj_YV 11 yX11_breach cX11_breach 4 (some .int) 2 := ⟨⟨tw1138, tw1, by decide +kernel, by decide +kernel, by decide +kernel⟩, tw1136, tw1137, _, rfl, rfl⟩
theorem tw1175 : (Jvm.Cond.code ({ cls := "LeaseLand", name := "can", desc := "(I)I" } : Jvm.MethodName) prog_1_method_54_code (2 : Nat) (Option.some Jvm.ClassFile.FieldType.int)) ∈ mj_tbl := mj_w 1228 (by decide +kernel) (by decide +kernel)
theorem tw1173 : (Jvm.Cond.instanceMethod ({ cls := "LeaseLand", name := "can", desc := "(I)I" } : Jvm.MethodName)) ∈ mj_tbl := mj_w 1226 (by decide +kernel) (by decide +kernel)
theorem tw1174 : (Jvm.Cond.selects "LeaseLand" ({ cls := "LeaseLand", name := "can", desc := "(I)I" } : Jvm.MethodName) ({ cls := "LeaseLand", name := "can", desc := "(I)I" } : Jvm.MethodName)) ∈ mj_tbl := mj_w 1227 (by decide +kernel) (by decide +kernel)
theorem ty_X11_can : mj_YV 11 yX11_can cX11_can 2 (some .int) 1 := ⟨⟨tw1175, tw1, by decide +kernel, by decide +kernel, by decide +kernel⟩, tw1173, tw1174, _, rfl, rfl⟩
theorem tw925 : (Jvm.Cond.code ({ cls := "LeaseLand", name := "carry", desc := "(I)I" } : Jvm.MethodName) prog_1_method_33_code (3 : Nat) (Option.some Jvm.ClassFile.FieldType.int)) ∈ mj_tbl := mj_w 978 (by decide +kernel) (by decide +kernel)
theorem tw923 : (Jvm.Cond.instanceMethod ({ cls := "LeaseLand", name := "carry", desc := "(I)I" } : Jvm.MethodName)) ∈ mj_tbl := mj_w 976 (by decide +kernel) (by decide +kernel)
theorem tw924 : (Jvm.Cond.selects "LeaseLand" ({ cls := "LeaseLand", name := "carry", desc := "(I)I" } : Jvm.MethodName) ({ cls := "LeaseLand", name := "carry", desc := "(I)I" } : Jvm.MethodName)) ∈ mj_tbl := mj_w 977 (by decide +kernel) (by decide +kernel)
theorem ty_X11_carry : mj_YV 11 yX11_carry cX11_carry 3 (some .int) 1 := ⟨⟨tw925, tw1, by decide +kernel, by decide +kernel, by decide +kernel⟩, tw923, tw924, _, rfl, rfl⟩
theorem tw514 : (Jvm.Cond.code ({ cls := "LeaseLand", name := "chain", desc := "(II)I" } : Jvm.MethodName) prog_1_method_11_code (5 : Nat) (Option.some Jvm.ClassFile.FieldType.int)) ∈ mj_tbl := mj_w 567 (by decide +kernel) (by decide +kernel)
theorem tw512 : (Jvm.Cond.instanceMethod ({ cls := "LeaseLand", name := "chain", desc := "(II)I" } : Jvm.MethodName)) ∈ mj_tbl := mj_w 565 (by decide +kernel) (by decide +kernel)
theorem tw513 : (Jvm.Cond.selects "LeaseLand" ({ cls := "LeaseLand", name := "chain", desc := "(II)I" } : Jvm.MethodName) ({ cls := "LeaseLand", name := "chain", desc := "(II)I" } : Jvm.MethodName)) ∈ mj_tbl := mj_w 566 (by decide +kernel) (by decide +kernel)
theorem ty_X11_chain : mj_YV 11 yX11_chain cX11_chain 5 (some .int) 2 := ⟨⟨tw514, tw1, by decide +kernel, by decide +kernel, by decide +kernel⟩, tw512, tw513, _, rfl, rfl⟩
theorem tw823 : (Jvm.Cond.code ({ cls := "LeaseLand", name := "decisive", desc := "(II)I" } : Jvm.MethodName) prog_1_method_22_code (9 : Nat) (Option.some Jvm.ClassFile.FieldType.int)) ∈ mj_tbl := mj_w 876 (by decide +kernel) (by decide +kernel)
theorem tw821 : (Jvm.Cond.instanceMethod ({ cls := "LeaseLand", name := "decisive", desc := "(II)I" } : Jvm.MethodName)) ∈ mj_tbl := mj_w 874 (by decide +kernel) (by decide +kernel)
theorem tw822 : (Jvm.Cond.selects "LeaseLand" ({ cls := "LeaseLand", name := "decisive", desc := "(II)I" } : Jvm.MethodName) ({ cls := "LeaseLand", name := "decisive", desc := "(II)I" } : Jvm.MethodName)) ∈ mj_tbl := mj_w 875 (by decide +kernel) (by decide +kernel)
theorem ty_X11_decisive : mj_YV 11 yX11_decisive cX11_decisive 9 (some .int) 2 := ⟨⟨tw823, tw1, by decide +kernel, by decide +kernel, by decide +kernel⟩, tw821, tw822, _, rfl, rfl⟩
theorem tw1064 : (Jvm.Cond.code ({ cls := "LeaseLand", name := "doubt", desc := "(I)J" } : Jvm.MethodName) prog_1_method_42_code (2 : Nat) (Option.some Jvm.ClassFile.FieldType.long)) ∈ mj_tbl := mj_w 1117 (by decide +kernel) (by decide +kernel)
theorem tw1062 : (Jvm.Cond.instanceMethod ({ cls := "LeaseLand", name := "doubt", desc := "(I)J" } : Jvm.MethodName)) ∈ mj_tbl := mj_w 1115 (by decide +kernel) (by decide +kernel)
theorem tw1063 : (Jvm.Cond.selects "LeaseLand" ({ cls := "LeaseLand", name := "doubt", desc := "(I)J" } : Jvm.MethodName) ({ cls := "LeaseLand", name := "doubt", desc := "(I)J" } : Jvm.MethodName)) ∈ mj_tbl := mj_w 1116 (by decide +kernel) (by decide +kernel)
theorem ty_X11_doubt : mj_YV 11 yX11_doubt cX11_doubt 2 (some .long) 1 := ⟨⟨tw1064, tw1, by decide +kernel, by decide +kernel, by decide +kernel⟩, tw1062, tw1063, _, rfl, rfl⟩
theorem tw1191 : (Jvm.Cond.code ({ cls := "LeaseLand", name := "doubted", desc := "(I)I" } : Jvm.MethodName) prog_1_method_55_code (5 : Nat) (Option.some Jvm.ClassFile.FieldType.int)) ∈ mj_tbl := mj_w 1244 (by decide +kernel) (by decide +kernel)
theorem tw1189 : (Jvm.Cond.instanceMethod ({ cls := "LeaseLand", name := "doubted", desc := "(I)I" } : Jvm.MethodName)) ∈ mj_tbl := mj_w 1242 (by decide +kernel) (by decide +kernel)
theorem tw1190 : (Jvm.Cond.selects "LeaseLand" ({ cls := "LeaseLand", name := "doubted", desc := "(I)I" } : Jvm.MethodName) ({ cls := "LeaseLand", name := "doubted", desc := "(I)I" } : Jvm.MethodName)) ∈ mj_tbl := mj_w 1243 (by decide +kernel) (by decide +kernel)
theorem ty_X11_doubted : mj_YV 11 yX11_doubted cX11_doubted 5 (some .int) 1 := ⟨⟨tw1191, tw1, by decide +kernel, by decide +kernel, by decide +kernel⟩, tw1189, tw1190, _, rfl, rfl⟩
theorem tw493 : (Jvm.Cond.code ({ cls := "LeaseLand", name := "end", desc := "(II)I" } : Jvm.MethodName) prog_1_method_9_code (4 : Nat) (Option.some Jvm.ClassFile.FieldType.int)) ∈ mj_tbl := mj_w 546 (by decide +kernel) (by decide +kernel)
theorem tw491 : (Jvm.Cond.instanceMethod ({ cls := "LeaseLand", name := "end", desc := "(II)I" } : Jvm.MethodName)) ∈ mj_tbl := mj_w 544 (by decide +kernel) (by decide +kernel)
theorem tw492 : (Jvm.Cond.selects "LeaseLand" ({ cls := "LeaseLand", name := "end", desc := "(II)I" } : Jvm.MethodName) ({ cls := "LeaseLand", name := "end", desc := "(II)I" } : Jvm.MethodName)) ∈ mj_tbl := mj_w 545 (by decide +kernel) (by decide +kernel)
theorem ty_X11_end : mj_YV 11 yX11_end cX11_end 4 (some .int) 2 := ⟨⟨tw493, tw1, by decide +kernel, by decide +kernel, by decide +kernel⟩, tw491, tw492, _, rfl, rfl⟩
theorem tw827 : (Jvm.Cond.code ({ cls := "LeaseLand", name := "fact", desc := "(II)I" } : Jvm.MethodName) prog_1_method_25_code (4 : Nat) (Option.some Jvm.ClassFile.FieldType.int)) ∈ mj_tbl := mj_w 880 (by decide +kernel) (by decide +kernel)
theorem tw825 : (Jvm.Cond.instanceMethod ({ cls := "LeaseLand", name := "fact", desc := "(II)I" } : Jvm.MethodName)) ∈ mj_tbl := mj_w 878 (by decide +kernel) (by decide +kernel)
theorem tw826 : (Jvm.Cond.selects "LeaseLand" ({ cls := "LeaseLand", name := "fact", desc := "(II)I" } : Jvm.MethodName) ({ cls := "LeaseLand", name := "fact", desc := "(II)I" } : Jvm.MethodName)) ∈ mj_tbl := mj_w 879 (by decide +kernel) (by decide +kernel)
theorem ty_X11_fact : mj_YV 11 yX11_fact cX11_fact 4 (some .int) 2 := ⟨⟨tw827, tw1, by decide +kernel, by decide +kernel, by decide +kernel⟩, tw825, tw826, _, rfl, rfl⟩
theorem tw579 : (Jvm.Cond.code ({ cls := "LeaseLand", name := "fault", desc := "()I" } : Jvm.MethodName) prog_1_method_19_code (1 : Nat) (Option.some Jvm.ClassFile.FieldType.int)) ∈ mj_tbl := mj_w 632 (by decide +kernel) (by decide +kernel)
theorem tw577 : (Jvm.Cond.instanceMethod ({ cls := "LeaseLand", name := "fault", desc := "()I" } : Jvm.MethodName)) ∈ mj_tbl := mj_w 630 (by decide +kernel) (by decide +kernel)
theorem tw578 : (Jvm.Cond.selects "LeaseLand" ({ cls := "LeaseLand", name := "fault", desc := "()I" } : Jvm.MethodName) ({ cls := "LeaseLand", name := "fault", desc := "()I" } : Jvm.MethodName)) ∈ mj_tbl := mj_w 631 (by decide +kernel) (by decide +kernel)
theorem ty_X11_fault : mj_YV 11 yX11_fault cX11_fault 1 (some .int) 0 := ⟨⟨tw579, tw1, by decide +kernel, by decide +kernel, by decide +kernel⟩, tw577, tw578, _, rfl, rfl⟩
theorem tw833 : (Jvm.Cond.code ({ cls := "LeaseLand", name := "first", desc := "(II)I" } : Jvm.MethodName) prog_1_method_26_code (6 : Nat) (Option.some Jvm.ClassFile.FieldType.int)) ∈ mj_tbl := mj_w 886 (by decide +kernel) (by decide +kernel)
theorem tw831 : (Jvm.Cond.instanceMethod ({ cls := "LeaseLand", name := "first", desc := "(II)I" } : Jvm.MethodName)) ∈ mj_tbl := mj_w 884 (by decide +kernel) (by decide +kernel)
theorem tw832 : (Jvm.Cond.selects "LeaseLand" ({ cls := "LeaseLand", name := "first", desc := "(II)I" } : Jvm.MethodName) ({ cls := "LeaseLand", name := "first", desc := "(II)I" } : Jvm.MethodName)) ∈ mj_tbl := mj_w 885 (by decide +kernel) (by decide +kernel)
theorem ty_X11_first : mj_YV 11 yX11_first cX11_first 6 (some .int) 2 := ⟨⟨tw833, tw1, by decide +kernel, by decide +kernel, by decide +kernel⟩, tw831, tw832, _, rfl, rfl⟩
theorem tw1142 : (Jvm.Cond.code ({ cls := "LeaseLand", name := "forfeit", desc := "(I)I" } : Jvm.MethodName) prog_1_method_51_code (3 : Nat) (Option.some Jvm.ClassFile.FieldType.int)) ∈ mj_tbl := mj_w 1195 (by decide +kernel) (by decide +kernel)
theorem tw1140 : (Jvm.Cond.instanceMethod ({ cls := "LeaseLand", name := "forfeit", desc := "(I)I" } : Jvm.MethodName)) ∈ mj_tbl := mj_w 1193 (by decide +kernel) (by decide +kernel)
theorem tw1141 : (Jvm.Cond.selects "LeaseLand" ({ cls := "LeaseLand", name := "forfeit", desc := "(I)I" } : Jvm.MethodName) ({ cls := "LeaseLand", name := "forfeit", desc := "(I)I" } : Jvm.MethodName)) ∈ mj_tbl := mj_w 1194 (by decide +kernel) (by decide +kernel)
theorem ty_X11_forfeit : mj_YV 11 yX11_forfeit cX11_forfeit 3 (some .int) 1 := ⟨⟨tw1142, tw1, by decide +kernel, by decide +kernel, by decide +kernel⟩, tw1140, tw1141, _, rfl, rfl⟩
theorem tw27 : (Jvm.Cond.code ({ cls := "LeaseLand", name := "<init>", desc := "()V" } : Jvm.MethodName) prog_1_method_1_code (1 : Nat) (Option.none : Option Jvm.ClassFile.FieldType)) ∈ mj_tbl := mj_w 80 (by decide +kernel) (by decide +kernel)
theorem tw26 : (Jvm.Cond.instanceMethod ({ cls := "LeaseLand", name := "<init>", desc := "()V" } : Jvm.MethodName)) ∈ mj_tbl := mj_w 79 (by decide +kernel) (by decide +kernel)
theorem ty_X11_init : mj_YI yX11_init cX11_init 1 0 := ⟨⟨tw27, tw1, by decide +kernel, by decide +kernel, by decide +kernel⟩, tw26, rfl⟩
theorem tw1037 : (Jvm.Cond.code ({ cls := "LeaseLand", name := "learned", desc := "(III)J" } : Jvm.MethodName) prog_1_method_41_code (4 : Nat) (Option.some Jvm.ClassFile.FieldType.long)) ∈ mj_tbl := mj_w 1090 (by decide +kernel) (by decide +kernel)
theorem tw1035 : (Jvm.Cond.instanceMethod ({ cls := "LeaseLand", name := "learned", desc := "(III)J" } : Jvm.MethodName)) ∈ mj_tbl := mj_w 1088 (by decide +kernel) (by decide +kernel)
theorem tw1036 : (Jvm.Cond.selects "LeaseLand" ({ cls := "LeaseLand", name := "learned", desc := "(III)J" } : Jvm.MethodName) ({ cls := "LeaseLand", name := "learned", desc := "(III)J" } : Jvm.MethodName)) ∈ mj_tbl := mj_w 1089 (by decide +kernel) (by decide +kernel)
theorem ty_X11_learned : mj_YV 11 yX11_learned cX11_learned 4 (some .long) 3 := ⟨⟨tw1037, tw1, by decide +kernel, by decide +kernel, by decide +kernel⟩, tw1035, tw1036, _, rfl, rfl⟩
theorem tw396 : (Jvm.Cond.code ({ cls := "LeaseLand", name := "lease", desc := "(IIIII)I" } : Jvm.MethodName) prog_1_method_4_code (8 : Nat) (Option.some Jvm.ClassFile.FieldType.int)) ∈ mj_tbl := mj_w 449 (by decide +kernel) (by decide +kernel)
theorem tw394 : (Jvm.Cond.instanceMethod ({ cls := "LeaseLand", name := "lease", desc := "(IIIII)I" } : Jvm.MethodName)) ∈ mj_tbl := mj_w 447 (by decide +kernel) (by decide +kernel)
theorem tw395 : (Jvm.Cond.selects "LeaseLand" ({ cls := "LeaseLand", name := "lease", desc := "(IIIII)I" } : Jvm.MethodName) ({ cls := "LeaseLand", name := "lease", desc := "(IIIII)I" } : Jvm.MethodName)) ∈ mj_tbl := mj_w 448 (by decide +kernel) (by decide +kernel)
theorem ty_X11_lease : mj_YV 11 yX11_lease cX11_lease 8 (some .int) 5 := ⟨⟨tw396, tw1, by decide +kernel, by decide +kernel, by decide +kernel⟩, tw394, tw395, _, rfl, rfl⟩
theorem tw1160 : (Jvm.Cond.code ({ cls := "LeaseLand", name := "line", desc := "(IIII)I" } : Jvm.MethodName) prog_1_method_53_code (5 : Nat) (Option.some Jvm.ClassFile.FieldType.int)) ∈ mj_tbl := mj_w 1213 (by decide +kernel) (by decide +kernel)
theorem tw1158 : (Jvm.Cond.instanceMethod ({ cls := "LeaseLand", name := "line", desc := "(IIII)I" } : Jvm.MethodName)) ∈ mj_tbl := mj_w 1211 (by decide +kernel) (by decide +kernel)
theorem tw1159 : (Jvm.Cond.selects "LeaseLand" ({ cls := "LeaseLand", name := "line", desc := "(IIII)I" } : Jvm.MethodName) ({ cls := "LeaseLand", name := "line", desc := "(IIII)I" } : Jvm.MethodName)) ∈ mj_tbl := mj_w 1212 (by decide +kernel) (by decide +kernel)
theorem ty_X11_line : mj_YV 11 yX11_line cX11_line 5 (some .int) 4 := ⟨⟨tw1160, tw1, by decide +kernel, by decide +kernel, by decide +kernel⟩, tw1158, tw1159, _, rfl, rfl⟩
theorem tw529 : (Jvm.Cond.code ({ cls := "LeaseLand", name := "live", desc := "(II)I" } : Jvm.MethodName) prog_1_method_12_code (4 : Nat) (Option.some Jvm.ClassFile.FieldType.int)) ∈ mj_tbl := mj_w 582 (by decide +kernel) (by decide +kernel)
theorem tw527 : (Jvm.Cond.instanceMethod ({ cls := "LeaseLand", name := "live", desc := "(II)I" } : Jvm.MethodName)) ∈ mj_tbl := mj_w 580 (by decide +kernel) (by decide +kernel)
theorem tw528 : (Jvm.Cond.selects "LeaseLand" ({ cls := "LeaseLand", name := "live", desc := "(II)I" } : Jvm.MethodName) ({ cls := "LeaseLand", name := "live", desc := "(II)I" } : Jvm.MethodName)) ∈ mj_tbl := mj_w 581 (by decide +kernel) (by decide +kernel)
theorem ty_X11_live : mj_YV 11 yX11_live cX11_live 4 (some .int) 2 := ⟨⟨tw529, tw1, by decide +kernel, by decide +kernel, by decide +kernel⟩, tw527, tw528, _, rfl, rfl⟩
theorem tw1107 : (Jvm.Cond.code ({ cls := "LeaseLand", name := "may", desc := "(II)I" } : Jvm.MethodName) prog_1_method_46_code (4 : Nat) (Option.some Jvm.ClassFile.FieldType.int)) ∈ mj_tbl := mj_w 1160 (by decide +kernel) (by decide +kernel)
theorem tw1105 : (Jvm.Cond.instanceMethod ({ cls := "LeaseLand", name := "may", desc := "(II)I" } : Jvm.MethodName)) ∈ mj_tbl := mj_w 1158 (by decide +kernel) (by decide +kernel)
theorem tw1106 : (Jvm.Cond.selects "LeaseLand" ({ cls := "LeaseLand", name := "may", desc := "(II)I" } : Jvm.MethodName) ({ cls := "LeaseLand", name := "may", desc := "(II)I" } : Jvm.MethodName)) ∈ mj_tbl := mj_w 1159 (by decide +kernel) (by decide +kernel)
theorem ty_X11_may : mj_YV 11 yX11_may cX11_may 4 (some .int) 2 := ⟨⟨tw1107, tw1, by decide +kernel, by decide +kernel, by decide +kernel⟩, tw1105, tw1106, _, rfl, rfl⟩
theorem tw1134 : (Jvm.Cond.code ({ cls := "LeaseLand", name := "more", desc := "(II)I" } : Jvm.MethodName) prog_1_method_47_code (8 : Nat) (Option.some Jvm.ClassFile.FieldType.int)) ∈ mj_tbl := mj_w 1187 (by decide +kernel) (by decide +kernel)
theorem tw1132 : (Jvm.Cond.instanceMethod ({ cls := "LeaseLand", name := "more", desc := "(II)I" } : Jvm.MethodName)) ∈ mj_tbl := mj_w 1185 (by decide +kernel) (by decide +kernel)
theorem tw1133 : (Jvm.Cond.selects "LeaseLand" ({ cls := "LeaseLand", name := "more", desc := "(II)I" } : Jvm.MethodName) ({ cls := "LeaseLand", name := "more", desc := "(II)I" } : Jvm.MethodName)) ∈ mj_tbl := mj_w 1186 (by decide +kernel) (by decide +kernel)
theorem ty_X11_more : mj_YV 11 yX11_more cX11_more 8 (some .int) 2 := ⟨⟨tw1134, tw1, by decide +kernel, by decide +kernel, by decide +kernel⟩, tw1132, tw1133, _, rfl, rfl⟩
theorem tw843 : (Jvm.Cond.code ({ cls := "LeaseLand", name := "notice", desc := "(II)I" } : Jvm.MethodName) prog_1_method_27_code (5 : Nat) (Option.some Jvm.ClassFile.FieldType.int)) ∈ mj_tbl := mj_w 896 (by decide +kernel) (by decide +kernel)
theorem tw841 : (Jvm.Cond.instanceMethod ({ cls := "LeaseLand", name := "notice", desc := "(II)I" } : Jvm.MethodName)) ∈ mj_tbl := mj_w 894 (by decide +kernel) (by decide +kernel)
theorem tw842 : (Jvm.Cond.selects "LeaseLand" ({ cls := "LeaseLand", name := "notice", desc := "(II)I" } : Jvm.MethodName) ({ cls := "LeaseLand", name := "notice", desc := "(II)I" } : Jvm.MethodName)) ∈ mj_tbl := mj_w 895 (by decide +kernel) (by decide +kernel)
theorem ty_X11_notice : mj_YV 11 yX11_notice cX11_notice 5 (some .int) 2 := ⟨⟨tw843, tw1, by decide +kernel, by decide +kernel, by decide +kernel⟩, tw841, tw842, _, rfl, rfl⟩
theorem tw547 : (Jvm.Cond.code ({ cls := "LeaseLand", name := "owed", desc := "(III)J" } : Jvm.MethodName) prog_1_method_15_code (5 : Nat) (Option.some Jvm.ClassFile.FieldType.long)) ∈ mj_tbl := mj_w 600 (by decide +kernel) (by decide +kernel)
theorem tw545 : (Jvm.Cond.instanceMethod ({ cls := "LeaseLand", name := "owed", desc := "(III)J" } : Jvm.MethodName)) ∈ mj_tbl := mj_w 598 (by decide +kernel) (by decide +kernel)
theorem tw546 : (Jvm.Cond.selects "LeaseLand" ({ cls := "LeaseLand", name := "owed", desc := "(III)J" } : Jvm.MethodName) ({ cls := "LeaseLand", name := "owed", desc := "(III)J" } : Jvm.MethodName)) ∈ mj_tbl := mj_w 599 (by decide +kernel) (by decide +kernel)
theorem ty_X11_owed : mj_YV 11 yX11_owed cX11_owed 5 (some .long) 3 := ⟨⟨tw547, tw1, by decide +kernel, by decide +kernel, by decide +kernel⟩, tw545, tw546, _, rfl, rfl⟩
theorem tw469 : (Jvm.Cond.code ({ cls := "LeaseLand", name := "part", desc := "(III)I" } : Jvm.MethodName) prog_1_method_8_code (5 : Nat) (Option.some Jvm.ClassFile.FieldType.int)) ∈ mj_tbl := mj_w 522 (by decide +kernel) (by decide +kernel)
theorem tw467 : (Jvm.Cond.instanceMethod ({ cls := "LeaseLand", name := "part", desc := "(III)I" } : Jvm.MethodName)) ∈ mj_tbl := mj_w 520 (by decide +kernel) (by decide +kernel)
theorem tw468 : (Jvm.Cond.selects "LeaseLand" ({ cls := "LeaseLand", name := "part", desc := "(III)I" } : Jvm.MethodName) ({ cls := "LeaseLand", name := "part", desc := "(III)I" } : Jvm.MethodName)) ∈ mj_tbl := mj_w 521 (by decide +kernel) (by decide +kernel)
theorem ty_X11_part : mj_YV 11 yX11_part cX11_part 5 (some .int) 3 := ⟨⟨tw469, tw1, by decide +kernel, by decide +kernel, by decide +kernel⟩, tw467, tw468, _, rfl, rfl⟩
theorem tw976 : (Jvm.Cond.code ({ cls := "LeaseLand", name := "point", desc := "(II)I" } : Jvm.MethodName) prog_1_method_36_code (3 : Nat) (Option.some Jvm.ClassFile.FieldType.int)) ∈ mj_tbl := mj_w 1029 (by decide +kernel) (by decide +kernel)
theorem tw974 : (Jvm.Cond.instanceMethod ({ cls := "LeaseLand", name := "point", desc := "(II)I" } : Jvm.MethodName)) ∈ mj_tbl := mj_w 1027 (by decide +kernel) (by decide +kernel)
theorem tw975 : (Jvm.Cond.selects "LeaseLand" ({ cls := "LeaseLand", name := "point", desc := "(II)I" } : Jvm.MethodName) ({ cls := "LeaseLand", name := "point", desc := "(II)I" } : Jvm.MethodName)) ∈ mj_tbl := mj_w 1028 (by decide +kernel) (by decide +kernel)
theorem ty_X11_point : mj_YV 11 yX11_point cX11_point 3 (some .int) 2 := ⟨⟨tw976, tw1, by decide +kernel, by decide +kernel, by decide +kernel⟩, tw974, tw975, _, rfl, rfl⟩
theorem tw1080 : (Jvm.Cond.code ({ cls := "LeaseLand", name := "price", desc := "(II)J" } : Jvm.MethodName) prog_1_method_44_code (4 : Nat) (Option.some Jvm.ClassFile.FieldType.long)) ∈ mj_tbl := mj_w 1133 (by decide +kernel) (by decide +kernel)
theorem tw1078 : (Jvm.Cond.instanceMethod ({ cls := "LeaseLand", name := "price", desc := "(II)J" } : Jvm.MethodName)) ∈ mj_tbl := mj_w 1131 (by decide +kernel) (by decide +kernel)
theorem tw1079 : (Jvm.Cond.selects "LeaseLand" ({ cls := "LeaseLand", name := "price", desc := "(II)J" } : Jvm.MethodName) ({ cls := "LeaseLand", name := "price", desc := "(II)J" } : Jvm.MethodName)) ∈ mj_tbl := mj_w 1132 (by decide +kernel) (by decide +kernel)
theorem ty_X11_price : mj_YV 11 yX11_price cX11_price 4 (some .long) 2 := ⟨⟨tw1080, tw1, by decide +kernel, by decide +kernel, by decide +kernel⟩, tw1078, tw1079, _, rfl, rfl⟩
theorem tw538 : (Jvm.Cond.code ({ cls := "LeaseLand", name := "rate", desc := "(II)I" } : Jvm.MethodName) prog_1_method_14_code (4 : Nat) (Option.some Jvm.ClassFile.FieldType.int)) ∈ mj_tbl := mj_w 591 (by decide +kernel) (by decide +kernel)
theorem tw536 : (Jvm.Cond.instanceMethod ({ cls := "LeaseLand", name := "rate", desc := "(II)I" } : Jvm.MethodName)) ∈ mj_tbl := mj_w 589 (by decide +kernel) (by decide +kernel)
theorem tw537 : (Jvm.Cond.selects "LeaseLand" ({ cls := "LeaseLand", name := "rate", desc := "(II)I" } : Jvm.MethodName) ({ cls := "LeaseLand", name := "rate", desc := "(II)I" } : Jvm.MethodName)) ∈ mj_tbl := mj_w 590 (by decide +kernel) (by decide +kernel)
theorem ty_X11_rate : mj_YV 11 yX11_rate cX11_rate 4 (some .int) 2 := ⟨⟨tw538, tw1, by decide +kernel, by decide +kernel, by decide +kernel⟩, tw536, tw537, _, rfl, rfl⟩
theorem tw1147 : (Jvm.Cond.code ({ cls := "LeaseLand", name := "relieve", desc := "(I)I" } : Jvm.MethodName) prog_1_method_52_code (3 : Nat) (Option.some Jvm.ClassFile.FieldType.int)) ∈ mj_tbl := mj_w 1200 (by decide +kernel) (by decide +kernel)
theorem tw1145 : (Jvm.Cond.instanceMethod ({ cls := "LeaseLand", name := "relieve", desc := "(I)I" } : Jvm.MethodName)) ∈ mj_tbl := mj_w 1198 (by decide +kernel) (by decide +kernel)
theorem tw1146 : (Jvm.Cond.selects "LeaseLand" ({ cls := "LeaseLand", name := "relieve", desc := "(I)I" } : Jvm.MethodName) ({ cls := "LeaseLand", name := "relieve", desc := "(I)I" } : Jvm.MethodName)) ∈ mj_tbl := mj_w 1199 (by decide +kernel) (by decide +kernel)
theorem ty_X11_relieve : mj_YV 11 yX11_relieve cX11_relieve 3 (some .int) 1 := ⟨⟨tw1147, tw1, by decide +kernel, by decide +kernel, by decide +kernel⟩, tw1145, tw1146, _, rfl, rfl⟩
theorem tw533 : (Jvm.Cond.code ({ cls := "LeaseLand", name := "rent", desc := "(III)I" } : Jvm.MethodName) prog_1_method_13_code (6 : Nat) (Option.some Jvm.ClassFile.FieldType.int)) ∈ mj_tbl := mj_w 586 (by decide +kernel) (by decide +kernel)
theorem tw531 : (Jvm.Cond.instanceMethod ({ cls := "LeaseLand", name := "rent", desc := "(III)I" } : Jvm.MethodName)) ∈ mj_tbl := mj_w 584 (by decide +kernel) (by decide +kernel)
theorem tw532 : (Jvm.Cond.selects "LeaseLand" ({ cls := "LeaseLand", name := "rent", desc := "(III)I" } : Jvm.MethodName) ({ cls := "LeaseLand", name := "rent", desc := "(III)I" } : Jvm.MethodName)) ∈ mj_tbl := mj_w 585 (by decide +kernel) (by decide +kernel)
theorem ty_X11_rent : mj_YV 11 yX11_rent cX11_rent 6 (some .int) 3 := ⟨⟨tw533, tw1, by decide +kernel, by decide +kernel, by decide +kernel⟩, tw531, tw532, _, rfl, rfl⟩
theorem tw760 : (Jvm.Cond.code ({ cls := "LeaseLand", name := "right", desc := "(II)I" } : Jvm.MethodName) prog_1_method_21_code (5 : Nat) (Option.some Jvm.ClassFile.FieldType.int)) ∈ mj_tbl := mj_w 813 (by decide +kernel) (by decide +kernel)
theorem tw758 : (Jvm.Cond.instanceMethod ({ cls := "LeaseLand", name := "right", desc := "(II)I" } : Jvm.MethodName)) ∈ mj_tbl := mj_w 811 (by decide +kernel) (by decide +kernel)
theorem tw759 : (Jvm.Cond.selects "LeaseLand" ({ cls := "LeaseLand", name := "right", desc := "(II)I" } : Jvm.MethodName) ({ cls := "LeaseLand", name := "right", desc := "(II)I" } : Jvm.MethodName)) ∈ mj_tbl := mj_w 812 (by decide +kernel) (by decide +kernel)
theorem ty_X11_right : mj_YV 11 yX11_right cX11_right 5 (some .int) 2 := ⟨⟨tw760, tw1, by decide +kernel, by decide +kernel, by decide +kernel⟩, tw758, tw759, _, rfl, rfl⟩
theorem tw1029 : (Jvm.Cond.code ({ cls := "LeaseLand", name := "sale", desc := "(II)I" } : Jvm.MethodName) prog_1_method_40_code (3 : Nat) (Option.some Jvm.ClassFile.FieldType.int)) ∈ mj_tbl := mj_w 1082 (by decide +kernel) (by decide +kernel)
theorem tw1027 : (Jvm.Cond.instanceMethod ({ cls := "LeaseLand", name := "sale", desc := "(II)I" } : Jvm.MethodName)) ∈ mj_tbl := mj_w 1080 (by decide +kernel) (by decide +kernel)
theorem tw1028 : (Jvm.Cond.selects "LeaseLand" ({ cls := "LeaseLand", name := "sale", desc := "(II)I" } : Jvm.MethodName) ({ cls := "LeaseLand", name := "sale", desc := "(II)I" } : Jvm.MethodName)) ∈ mj_tbl := mj_w 1081 (by decide +kernel) (by decide +kernel)
theorem ty_X11_sale : mj_YV 11 yX11_sale cX11_sale 3 (some .int) 2 := ⟨⟨tw1029, tw1, by decide +kernel, by decide +kernel, by decide +kernel⟩, tw1027, tw1028, _, rfl, rfl⟩
theorem tw564 : (Jvm.Cond.code ({ cls := "LeaseLand", name := "say", desc := "(I)I" } : Jvm.MethodName) prog_1_method_17_code (2 : Nat) (Option.some Jvm.ClassFile.FieldType.int)) ∈ mj_tbl := mj_w 617 (by decide +kernel) (by decide +kernel)
theorem tw562 : (Jvm.Cond.instanceMethod ({ cls := "LeaseLand", name := "say", desc := "(I)I" } : Jvm.MethodName)) ∈ mj_tbl := mj_w 615 (by decide +kernel) (by decide +kernel)
theorem tw563 : (Jvm.Cond.selects "LeaseLand" ({ cls := "LeaseLand", name := "say", desc := "(I)I" } : Jvm.MethodName) ({ cls := "LeaseLand", name := "say", desc := "(I)I" } : Jvm.MethodName)) ∈ mj_tbl := mj_w 616 (by decide +kernel) (by decide +kernel)
theorem ty_X11_say : mj_YV 11 yX11_say cX11_say 2 (some .int) 1 := ⟨⟨tw564, tw1, by decide +kernel, by decide +kernel, by decide +kernel⟩, tw562, tw563, _, rfl, rfl⟩
theorem tw457 : (Jvm.Cond.code ({ cls := "LeaseLand", name := "sell", desc := "(II)I" } : Jvm.MethodName) prog_1_method_7_code (5 : Nat) (Option.some Jvm.ClassFile.FieldType.int)) ∈ mj_tbl := mj_w 510 (by decide +kernel) (by decide +kernel)
theorem tw455 : (Jvm.Cond.instanceMethod ({ cls := "LeaseLand", name := "sell", desc := "(II)I" } : Jvm.MethodName)) ∈ mj_tbl := mj_w 508 (by decide +kernel) (by decide +kernel)
theorem tw456 : (Jvm.Cond.selects "LeaseLand" ({ cls := "LeaseLand", name := "sell", desc := "(II)I" } : Jvm.MethodName) ({ cls := "LeaseLand", name := "sell", desc := "(II)I" } : Jvm.MethodName)) ∈ mj_tbl := mj_w 509 (by decide +kernel) (by decide +kernel)
theorem ty_X11_sell : mj_YV 11 yX11_sell cX11_sell 5 (some .int) 2 := ⟨⟨tw457, tw1, by decide +kernel, by decide +kernel, by decide +kernel⟩, tw455, tw456, _, rfl, rfl⟩
theorem tw1076 : (Jvm.Cond.code ({ cls := "LeaseLand", name := "set", desc := "(II)I" } : Jvm.MethodName) prog_1_method_43_code (4 : Nat) (Option.some Jvm.ClassFile.FieldType.int)) ∈ mj_tbl := mj_w 1129 (by decide +kernel) (by decide +kernel)
theorem tw1074 : (Jvm.Cond.instanceMethod ({ cls := "LeaseLand", name := "set", desc := "(II)I" } : Jvm.MethodName)) ∈ mj_tbl := mj_w 1127 (by decide +kernel) (by decide +kernel)
theorem tw1075 : (Jvm.Cond.selects "LeaseLand" ({ cls := "LeaseLand", name := "set", desc := "(II)I" } : Jvm.MethodName) ({ cls := "LeaseLand", name := "set", desc := "(II)I" } : Jvm.MethodName)) ∈ mj_tbl := mj_w 1128 (by decide +kernel) (by decide +kernel)
theorem ty_X11_set : mj_YV 11 yX11_set cX11_set 4 (some .int) 2 := ⟨⟨tw1076, tw1, by decide +kernel, by decide +kernel, by decide +kernel⟩, tw1074, tw1075, _, rfl, rfl⟩
theorem tw1098 : (Jvm.Cond.code ({ cls := "LeaseLand", name := "share", desc := "(II)J" } : Jvm.MethodName) prog_1_method_45_code (4 : Nat) (Option.some Jvm.ClassFile.FieldType.long)) ∈ mj_tbl := mj_w 1151 (by decide +kernel) (by decide +kernel)
theorem tw1096 : (Jvm.Cond.instanceMethod ({ cls := "LeaseLand", name := "share", desc := "(II)J" } : Jvm.MethodName)) ∈ mj_tbl := mj_w 1149 (by decide +kernel) (by decide +kernel)
theorem tw1097 : (Jvm.Cond.selects "LeaseLand" ({ cls := "LeaseLand", name := "share", desc := "(II)J" } : Jvm.MethodName) ({ cls := "LeaseLand", name := "share", desc := "(II)J" } : Jvm.MethodName)) ∈ mj_tbl := mj_w 1150 (by decide +kernel) (by decide +kernel)
theorem ty_X11_share : mj_YV 11 yX11_share cX11_share 4 (some .long) 2 := ⟨⟨tw1098, tw1, by decide +kernel, by decide +kernel, by decide +kernel⟩, tw1096, tw1097, _, rfl, rfl⟩
theorem tw921 : (Jvm.Cond.code ({ cls := "LeaseLand", name := "status", desc := "(I)I" } : Jvm.MethodName) prog_1_method_32_code (3 : Nat) (Option.some Jvm.ClassFile.FieldType.int)) ∈ mj_tbl := mj_w 974 (by decide +kernel) (by decide +kernel)
theorem tw919 : (Jvm.Cond.instanceMethod ({ cls := "LeaseLand", name := "status", desc := "(I)I" } : Jvm.MethodName)) ∈ mj_tbl := mj_w 972 (by decide +kernel) (by decide +kernel)
theorem tw920 : (Jvm.Cond.selects "LeaseLand" ({ cls := "LeaseLand", name := "status", desc := "(I)I" } : Jvm.MethodName) ({ cls := "LeaseLand", name := "status", desc := "(I)I" } : Jvm.MethodName)) ∈ mj_tbl := mj_w 973 (by decide +kernel) (by decide +kernel)
theorem ty_X11_status : mj_YV 11 yX11_status cX11_status 3 (some .int) 1 := ⟨⟨tw921, tw1, by decide +kernel, by decide +kernel, by decide +kernel⟩, tw919, tw920, _, rfl, rfl⟩
theorem tw966 : (Jvm.Cond.code ({ cls := "LeaseLand", name := "stay", desc := "(I)I" } : Jvm.MethodName) prog_1_method_34_code (5 : Nat) (Option.some Jvm.ClassFile.FieldType.int)) ∈ mj_tbl := mj_w 1019 (by decide +kernel) (by decide +kernel)
theorem tw964 : (Jvm.Cond.instanceMethod ({ cls := "LeaseLand", name := "stay", desc := "(I)I" } : Jvm.MethodName)) ∈ mj_tbl := mj_w 1017 (by decide +kernel) (by decide +kernel)
theorem tw965 : (Jvm.Cond.selects "LeaseLand" ({ cls := "LeaseLand", name := "stay", desc := "(I)I" } : Jvm.MethodName) ({ cls := "LeaseLand", name := "stay", desc := "(I)I" } : Jvm.MethodName)) ∈ mj_tbl := mj_w 1018 (by decide +kernel) (by decide +kernel)
theorem ty_X11_stay : mj_YV 11 yX11_stay cX11_stay 5 (some .int) 1 := ⟨⟨tw966, tw1, by decide +kernel, by decide +kernel, by decide +kernel⟩, tw964, tw965, _, rfl, rfl⟩
theorem tw995 : (Jvm.Cond.code ({ cls := "LeaseLand", name := "table", desc := "(I)I" } : Jvm.MethodName) prog_1_method_38_code (2 : Nat) (Option.some Jvm.ClassFile.FieldType.int)) ∈ mj_tbl := mj_w 1048 (by decide +kernel) (by decide +kernel)
theorem tw993 : (Jvm.Cond.instanceMethod ({ cls := "LeaseLand", name := "table", desc := "(I)I" } : Jvm.MethodName)) ∈ mj_tbl := mj_w 1046 (by decide +kernel) (by decide +kernel)
theorem tw994 : (Jvm.Cond.selects "LeaseLand" ({ cls := "LeaseLand", name := "table", desc := "(I)I" } : Jvm.MethodName) ({ cls := "LeaseLand", name := "table", desc := "(I)I" } : Jvm.MethodName)) ∈ mj_tbl := mj_w 1047 (by decide +kernel) (by decide +kernel)
theorem ty_X11_table : mj_YV 11 yX11_table cX11_table 2 (some .int) 1 := ⟨⟨tw995, tw1, by decide +kernel, by decide +kernel, by decide +kernel⟩, tw993, tw994, _, rfl, rfl⟩
theorem tw289 : (Jvm.Cond.code ({ cls := "LeaseLand", name := "today", desc := "(I)I" } : Jvm.MethodName) prog_1_method_2_code (3 : Nat) (Option.some Jvm.ClassFile.FieldType.int)) ∈ mj_tbl := mj_w 342 (by decide +kernel) (by decide +kernel)
theorem tw287 : (Jvm.Cond.instanceMethod ({ cls := "LeaseLand", name := "today", desc := "(I)I" } : Jvm.MethodName)) ∈ mj_tbl := mj_w 340 (by decide +kernel) (by decide +kernel)
theorem tw288 : (Jvm.Cond.selects "LeaseLand" ({ cls := "LeaseLand", name := "today", desc := "(I)I" } : Jvm.MethodName) ({ cls := "LeaseLand", name := "today", desc := "(I)I" } : Jvm.MethodName)) ∈ mj_tbl := mj_w 341 (by decide +kernel) (by decide +kernel)
theorem ty_X11_today : mj_YV 11 yX11_today cX11_today 3 (some .int) 1 := ⟨⟨tw289, tw1, by decide +kernel, by decide +kernel, by decide +kernel⟩, tw287, tw288, _, rfl, rfl⟩
theorem tw1202 : (Jvm.Cond.code ({ cls := "LeaseLand", name := "told", desc := "(I)I" } : Jvm.MethodName) prog_1_method_56_code (2 : Nat) (Option.some Jvm.ClassFile.FieldType.int)) ∈ mj_tbl := mj_w 1255 (by decide +kernel) (by decide +kernel)
theorem tw1200 : (Jvm.Cond.instanceMethod ({ cls := "LeaseLand", name := "told", desc := "(I)I" } : Jvm.MethodName)) ∈ mj_tbl := mj_w 1253 (by decide +kernel) (by decide +kernel)
theorem tw1201 : (Jvm.Cond.selects "LeaseLand" ({ cls := "LeaseLand", name := "told", desc := "(I)I" } : Jvm.MethodName) ({ cls := "LeaseLand", name := "told", desc := "(I)I" } : Jvm.MethodName)) ∈ mj_tbl := mj_w 1254 (by decide +kernel) (by decide +kernel)
theorem ty_X11_told : mj_YV 11 yX11_told cX11_told 2 (some .int) 1 := ⟨⟨tw1202, tw1, by decide +kernel, by decide +kernel, by decide +kernel⟩, tw1200, tw1201, _, rfl, rfl⟩
theorem tw917 : (Jvm.Cond.code ({ cls := "LeaseLand", name := "tribunal", desc := "(IZ)I" } : Jvm.MethodName) prog_1_method_30_code (3 : Nat) (Option.some Jvm.ClassFile.FieldType.int)) ∈ mj_tbl := mj_w 970 (by decide +kernel) (by decide +kernel)
theorem tw915 : (Jvm.Cond.instanceMethod ({ cls := "LeaseLand", name := "tribunal", desc := "(IZ)I" } : Jvm.MethodName)) ∈ mj_tbl := mj_w 968 (by decide +kernel) (by decide +kernel)
theorem tw916 : (Jvm.Cond.selects "LeaseLand" ({ cls := "LeaseLand", name := "tribunal", desc := "(IZ)I" } : Jvm.MethodName) ({ cls := "LeaseLand", name := "tribunal", desc := "(IZ)I" } : Jvm.MethodName)) ∈ mj_tbl := mj_w 969 (by decide +kernel) (by decide +kernel)
theorem ty_X11_tribunal : mj_YV 11 yX11_tribunal cX11_tribunal 3 (some .int) 2 := ⟨⟨tw917, tw1, by decide +kernel, by decide +kernel, by decide +kernel⟩, tw915, tw916, _, rfl, rfl⟩
theorem tw971 : (Jvm.Cond.code ({ cls := "LeaseLand", name := "value", desc := "(II)I" } : Jvm.MethodName) prog_1_method_35_code (4 : Nat) (Option.some Jvm.ClassFile.FieldType.int)) ∈ mj_tbl := mj_w 1024 (by decide +kernel) (by decide +kernel)
theorem tw969 : (Jvm.Cond.instanceMethod ({ cls := "LeaseLand", name := "value", desc := "(II)I" } : Jvm.MethodName)) ∈ mj_tbl := mj_w 1022 (by decide +kernel) (by decide +kernel)
theorem tw970 : (Jvm.Cond.selects "LeaseLand" ({ cls := "LeaseLand", name := "value", desc := "(II)I" } : Jvm.MethodName) ({ cls := "LeaseLand", name := "value", desc := "(II)I" } : Jvm.MethodName)) ∈ mj_tbl := mj_w 1023 (by decide +kernel) (by decide +kernel)
theorem ty_X11_value : mj_YV 11 yX11_value cX11_value 4 (some .int) 2 := ⟨⟨tw971, tw1, by decide +kernel, by decide +kernel, by decide +kernel⟩, tw969, tw970, _, rfl, rfl⟩
theorem tw560 : (Jvm.Cond.code ({ cls := "LeaseLand", name := "weight", desc := "(II)I" } : Jvm.MethodName) prog_1_method_16_code (4 : Nat) (Option.some Jvm.ClassFile.FieldType.int)) ∈ mj_tbl := mj_w 613 (by decide +kernel) (by decide +kernel)
theorem tw558 : (Jvm.Cond.instanceMethod ({ cls := "LeaseLand", name := "weight", desc := "(II)I" } : Jvm.MethodName)) ∈ mj_tbl := mj_w 611 (by decide +kernel) (by decide +kernel)
theorem tw559 : (Jvm.Cond.selects "LeaseLand" ({ cls := "LeaseLand", name := "weight", desc := "(II)I" } : Jvm.MethodName) ({ cls := "LeaseLand", name := "weight", desc := "(II)I" } : Jvm.MethodName)) ∈ mj_tbl := mj_w 612 (by decide +kernel) (by decide +kernel)
theorem ty_X11_weight : mj_YV 11 yX11_weight cX11_weight 4 (some .int) 2 := ⟨⟨tw560, tw1, by decide +kernel, by decide +kernel, by decide +kernel⟩, tw558, tw559, _, rfl, rfl⟩
theorem tw297 : (Jvm.Cond.code ({ cls := "LeaseLand", name := "whole", desc := "(II)I" } : Jvm.MethodName) prog_1_method_3_code (3 : Nat) (Option.some Jvm.ClassFile.FieldType.int)) ∈ mj_tbl := mj_w 350 (by decide +kernel) (by decide +kernel)
theorem tw295 : (Jvm.Cond.instanceMethod ({ cls := "LeaseLand", name := "whole", desc := "(II)I" } : Jvm.MethodName)) ∈ mj_tbl := mj_w 348 (by decide +kernel) (by decide +kernel)
theorem tw296 : (Jvm.Cond.selects "LeaseLand" ({ cls := "LeaseLand", name := "whole", desc := "(II)I" } : Jvm.MethodName) ({ cls := "LeaseLand", name := "whole", desc := "(II)I" } : Jvm.MethodName)) ∈ mj_tbl := mj_w 349 (by decide +kernel) (by decide +kernel)
theorem ty_X11_whole : mj_YV 11 yX11_whole cX11_whole 3 (some .int) 2 := ⟨⟨tw297, tw1, by decide +kernel, by decide +kernel, by decide +kernel⟩, tw295, tw296, _, rfl, rfl⟩
theorem tw575 : (Jvm.Cond.code ({ cls := "LeaseLand", name := "wipe", desc := "()I" } : Jvm.MethodName) prog_1_method_18_code (2 : Nat) (Option.some Jvm.ClassFile.FieldType.int)) ∈ mj_tbl := mj_w 628 (by decide +kernel) (by decide +kernel)
theorem tw573 : (Jvm.Cond.instanceMethod ({ cls := "LeaseLand", name := "wipe", desc := "()I" } : Jvm.MethodName)) ∈ mj_tbl := mj_w 626 (by decide +kernel) (by decide +kernel)
theorem tw574 : (Jvm.Cond.selects "LeaseLand" ({ cls := "LeaseLand", name := "wipe", desc := "()I" } : Jvm.MethodName) ({ cls := "LeaseLand", name := "wipe", desc := "()I" } : Jvm.MethodName)) ∈ mj_tbl := mj_w 627 (by decide +kernel) (by decide +kernel)
theorem ty_X11_wipe : mj_YV 11 yX11_wipe cX11_wipe 2 (some .int) 0 := ⟨⟨tw575, tw1, by decide +kernel, by decide +kernel, by decide +kernel⟩, tw573, tw574, _, rfl, rfl⟩
theorem tw912 : (Jvm.Cond.code ({ cls := "LeaseLand", name := "withdraw", desc := "(I)I" } : Jvm.MethodName) prog_1_method_29_code (3 : Nat) (Option.some Jvm.ClassFile.FieldType.int)) ∈ mj_tbl := mj_w 965 (by decide +kernel) (by decide +kernel)
theorem tw910 : (Jvm.Cond.instanceMethod ({ cls := "LeaseLand", name := "withdraw", desc := "(I)I" } : Jvm.MethodName)) ∈ mj_tbl := mj_w 963 (by decide +kernel) (by decide +kernel)
theorem tw911 : (Jvm.Cond.selects "LeaseLand" ({ cls := "LeaseLand", name := "withdraw", desc := "(I)I" } : Jvm.MethodName) ({ cls := "LeaseLand", name := "withdraw", desc := "(I)I" } : Jvm.MethodName)) ∈ mj_tbl := mj_w 964 (by decide +kernel) (by decide +kernel)
theorem ty_X11_withdraw : mj_YV 11 yX11_withdraw cX11_withdraw 3 (some .int) 1 := ⟨⟨tw912, tw1, by decide +kernel, by decide +kernel, by decide +kernel⟩, tw910, tw911, _, rfl, rfl⟩
theorem tw1006 : (Jvm.Cond.code ({ cls := "LeaseLand", name := "worth", desc := "(I)I" } : Jvm.MethodName) prog_1_method_39_code (3 : Nat) (Option.some Jvm.ClassFile.FieldType.int)) ∈ mj_tbl := mj_w 1059 (by decide +kernel) (by decide +kernel)
theorem tw1004 : (Jvm.Cond.instanceMethod ({ cls := "LeaseLand", name := "worth", desc := "(I)I" } : Jvm.MethodName)) ∈ mj_tbl := mj_w 1057 (by decide +kernel) (by decide +kernel)
theorem tw1005 : (Jvm.Cond.selects "LeaseLand" ({ cls := "LeaseLand", name := "worth", desc := "(I)I" } : Jvm.MethodName) ({ cls := "LeaseLand", name := "worth", desc := "(I)I" } : Jvm.MethodName)) ∈ mj_tbl := mj_w 1058 (by decide +kernel) (by decide +kernel)
theorem ty_X11_worth : mj_YV 11 yX11_worth cX11_worth 3 (some .int) 1 := ⟨⟨tw1006, tw1, by decide +kernel, by decide +kernel, by decide +kernel⟩, tw1004, tw1005, _, rfl, rfl⟩
theorem tw1471 : (Jvm.Cond.code ({ cls := "LeaseLandModel", name := "about", desc := "(II)I" } : Jvm.MethodName) prog_14_method_30_code (3 : Nat) (Option.some Jvm.ClassFile.FieldType.int)) ∈ mj_tbl := mj_w 1524 (by decide +kernel) (by decide +kernel)
theorem tw1469 : (Jvm.Cond.instanceMethod ({ cls := "LeaseLandModel", name := "about", desc := "(II)I" } : Jvm.MethodName)) ∈ mj_tbl := mj_w 1522 (by decide +kernel) (by decide +kernel)
theorem tw1470 : (Jvm.Cond.selects "LeaseLandModel" ({ cls := "LeaseLandModel", name := "about", desc := "(II)I" } : Jvm.MethodName) ({ cls := "LeaseLandModel", name := "about", desc := "(II)I" } : Jvm.MethodName)) ∈ mj_tbl := mj_w 1523 (by decide +kernel) (by decide +kernel)
theorem ty_X12_about : mj_YV 12 yX12_about cX12_about 3 (some .int) 2 := ⟨⟨tw1471, tw11, by decide +kernel, by decide +kernel, by decide +kernel⟩, tw1469, tw1470, _, rfl, rfl⟩
theorem tw1552 : (Jvm.Cond.code ({ cls := "LeaseLandModel", name := "act", desc := "(II)I" } : Jvm.MethodName) prog_14_method_49_code (4 : Nat) (Option.some Jvm.ClassFile.FieldType.int)) ∈ mj_tbl := mj_w 1605 (by decide +kernel) (by decide +kernel)
theorem tw1550 : (Jvm.Cond.instanceMethod ({ cls := "LeaseLandModel", name := "act", desc := "(II)I" } : Jvm.MethodName)) ∈ mj_tbl := mj_w 1603 (by decide +kernel) (by decide +kernel)
theorem tw1551 : (Jvm.Cond.selects "LeaseLandModel" ({ cls := "LeaseLandModel", name := "act", desc := "(II)I" } : Jvm.MethodName) ({ cls := "LeaseLandModel", name := "act", desc := "(II)I" } : Jvm.MethodName)) ∈ mj_tbl := mj_w 1604 (by decide +kernel) (by decide +kernel)
theorem ty_X12_act : mj_YV 12 yX12_act cX12_act 4 (some .int) 2 := ⟨⟨tw1552, tw11, by decide +kernel, by decide +kernel, by decide +kernel⟩, tw1550, tw1551, _, rfl, rfl⟩
theorem tw1619 : (Jvm.Cond.code ({ cls := "LeaseLandModel", name := "answer", desc := "(IZ)I" } : Jvm.MethodName) prog_14_method_65_code (3 : Nat) (Option.some Jvm.ClassFile.FieldType.int)) ∈ mj_tbl := mj_w 1672 (by decide +kernel) (by decide +kernel)
theorem tw1617 : (Jvm.Cond.instanceMethod ({ cls := "LeaseLandModel", name := "answer", desc := "(IZ)I" } : Jvm.MethodName)) ∈ mj_tbl := mj_w 1670 (by decide +kernel) (by decide +kernel)
theorem tw1618 : (Jvm.Cond.selects "LeaseLandModel" ({ cls := "LeaseLandModel", name := "answer", desc := "(IZ)I" } : Jvm.MethodName) ({ cls := "LeaseLandModel", name := "answer", desc := "(IZ)I" } : Jvm.MethodName)) ∈ mj_tbl := mj_w 1671 (by decide +kernel) (by decide +kernel)
theorem ty_X12_answer : mj_YV 12 yX12_answer cX12_answer 3 (some .int) 2 := ⟨⟨tw1619, tw11, by decide +kernel, by decide +kernel, by decide +kernel⟩, tw1617, tw1618, _, rfl, rfl⟩
theorem tw1435 : (Jvm.Cond.code ({ cls := "LeaseLandModel", name := "between", desc := "(IIIII)I" } : Jvm.MethodName) prog_14_method_22_code (9 : Nat) (Option.some Jvm.ClassFile.FieldType.int)) ∈ mj_tbl := mj_w 1488 (by decide +kernel) (by decide +kernel)
theorem tw1433 : (Jvm.Cond.instanceMethod ({ cls := "LeaseLandModel", name := "between", desc := "(IIIII)I" } : Jvm.MethodName)) ∈ mj_tbl := mj_w 1486 (by decide +kernel) (by decide +kernel)
theorem tw1434 : (Jvm.Cond.selects "LeaseLandModel" ({ cls := "LeaseLandModel", name := "between", desc := "(IIIII)I" } : Jvm.MethodName) ({ cls := "LeaseLandModel", name := "between", desc := "(IIIII)I" } : Jvm.MethodName)) ∈ mj_tbl := mj_w 1487 (by decide +kernel) (by decide +kernel)
theorem ty_X12_between : mj_YV 12 yX12_between cX12_between 9 (some .int) 5 := ⟨⟨tw1435, tw11, by decide +kernel, by decide +kernel, by decide +kernel⟩, tw1433, tw1434, _, rfl, rfl⟩
theorem tw1691 : (Jvm.Cond.code ({ cls := "LeaseLandModel", name := "blank", desc := "()I" } : Jvm.MethodName) prog_14_method_81_code (2 : Nat) (Option.some Jvm.ClassFile.FieldType.int)) ∈ mj_tbl := mj_w 1744 (by decide +kernel) (by decide +kernel)
theorem tw1689 : (Jvm.Cond.instanceMethod ({ cls := "LeaseLandModel", name := "blank", desc := "()I" } : Jvm.MethodName)) ∈ mj_tbl := mj_w 1742 (by decide +kernel) (by decide +kernel)
theorem tw1690 : (Jvm.Cond.selects "LeaseLandModel" ({ cls := "LeaseLandModel", name := "blank", desc := "()I" } : Jvm.MethodName) ({ cls := "LeaseLandModel", name := "blank", desc := "()I" } : Jvm.MethodName)) ∈ mj_tbl := mj_w 1743 (by decide +kernel) (by decide +kernel)
theorem ty_X12_blank : mj_YV 12 yX12_blank cX12_blank 2 (some .int) 0 := ⟨⟨tw1691, tw11, by decide +kernel, by decide +kernel, by decide +kernel⟩, tw1689, tw1690, _, rfl, rfl⟩
theorem tw1791 : (Jvm.Cond.code ({ cls := "LeaseLandModel", name := "breach", desc := "(IZ)I" } : Jvm.MethodName) prog_14_method_104_code (4 : Nat) (Option.some Jvm.ClassFile.FieldType.int)) ∈ mj_tbl := mj_w 1844 (by decide +kernel) (by decide +kernel)
theorem tw1789 : (Jvm.Cond.instanceMethod ({ cls := "LeaseLandModel", name := "breach", desc := "(IZ)I" } : Jvm.MethodName)) ∈ mj_tbl := mj_w 1842 (by decide +kernel) (by decide +kernel)
theorem tw1790 : (Jvm.Cond.selects "LeaseLandModel" ({ cls := "LeaseLandModel", name := "breach", desc := "(IZ)I" } : Jvm.MethodName) ({ cls := "LeaseLandModel", name := "breach", desc := "(IZ)I" } : Jvm.MethodName)) ∈ mj_tbl := mj_w 1843 (by decide +kernel) (by decide +kernel)
theorem ty_X12_breach : mj_YV 12 yX12_breach cX12_breach 4 (some .int) 2 := ⟨⟨tw1791, tw11, by decide +kernel, by decide +kernel, by decide +kernel⟩, tw1789, tw1790, _, rfl, rfl⟩
theorem tw1807 : (Jvm.Cond.code ({ cls := "LeaseLandModel", name := "can", desc := "(I)I" } : Jvm.MethodName) prog_14_method_111_code (2 : Nat) (Option.some Jvm.ClassFile.FieldType.int)) ∈ mj_tbl := mj_w 1860 (by decide +kernel) (by decide +kernel)
theorem tw1805 : (Jvm.Cond.instanceMethod ({ cls := "LeaseLandModel", name := "can", desc := "(I)I" } : Jvm.MethodName)) ∈ mj_tbl := mj_w 1858 (by decide +kernel) (by decide +kernel)
theorem tw1806 : (Jvm.Cond.selects "LeaseLandModel" ({ cls := "LeaseLandModel", name := "can", desc := "(I)I" } : Jvm.MethodName) ({ cls := "LeaseLandModel", name := "can", desc := "(I)I" } : Jvm.MethodName)) ∈ mj_tbl := mj_w 1859 (by decide +kernel) (by decide +kernel)
theorem ty_X12_can : mj_YV 12 yX12_can cX12_can 2 (some .int) 1 := ⟨⟨tw1807, tw11, by decide +kernel, by decide +kernel, by decide +kernel⟩, tw1805, tw1806, _, rfl, rfl⟩
theorem tw1639 : (Jvm.Cond.code ({ cls := "LeaseLandModel", name := "carry", desc := "(I)I" } : Jvm.MethodName) prog_14_method_77_code (3 : Nat) (Option.some Jvm.ClassFile.FieldType.int)) ∈ mj_tbl := mj_w 1692 (by decide +kernel) (by decide +kernel)
theorem tw1637 : (Jvm.Cond.instanceMethod ({ cls := "LeaseLandModel", name := "carry", desc := "(I)I" } : Jvm.MethodName)) ∈ mj_tbl := mj_w 1690 (by decide +kernel) (by decide +kernel)
theorem tw1638 : (Jvm.Cond.selects "LeaseLandModel" ({ cls := "LeaseLandModel", name := "carry", desc := "(I)I" } : Jvm.MethodName) ({ cls := "LeaseLandModel", name := "carry", desc := "(I)I" } : Jvm.MethodName)) ∈ mj_tbl := mj_w 1691 (by decide +kernel) (by decide +kernel)
theorem ty_X12_carry : mj_YV 12 yX12_carry cX12_carry 3 (some .int) 1 := ⟨⟨tw1639, tw11, by decide +kernel, by decide +kernel, by decide +kernel⟩, tw1637, tw1638, _, rfl, rfl⟩
theorem tw1479 : (Jvm.Cond.code ({ cls := "LeaseLandModel", name := "chain", desc := "(II)I" } : Jvm.MethodName) prog_14_method_33_code (5 : Nat) (Option.some Jvm.ClassFile.FieldType.int)) ∈ mj_tbl := mj_w 1532 (by decide +kernel) (by decide +kernel)
theorem tw1477 : (Jvm.Cond.instanceMethod ({ cls := "LeaseLandModel", name := "chain", desc := "(II)I" } : Jvm.MethodName)) ∈ mj_tbl := mj_w 1530 (by decide +kernel) (by decide +kernel)
theorem tw1478 : (Jvm.Cond.selects "LeaseLandModel" ({ cls := "LeaseLandModel", name := "chain", desc := "(II)I" } : Jvm.MethodName) ({ cls := "LeaseLandModel", name := "chain", desc := "(II)I" } : Jvm.MethodName)) ∈ mj_tbl := mj_w 1531 (by decide +kernel) (by decide +kernel)
theorem ty_X12_chain : mj_YV 12 yX12_chain cX12_chain 5 (some .int) 2 := ⟨⟨tw1479, tw11, by decide +kernel, by decide +kernel, by decide +kernel⟩, tw1477, tw1478, _, rfl, rfl⟩
theorem tw1595 : (Jvm.Cond.code ({ cls := "LeaseLandModel", name := "decisive", desc := "(II)I" } : Jvm.MethodName) prog_14_method_58_code (8 : Nat) (Option.some Jvm.ClassFile.FieldType.int)) ∈ mj_tbl := mj_w 1648 (by decide +kernel) (by decide +kernel)
theorem tw1593 : (Jvm.Cond.instanceMethod ({ cls := "LeaseLandModel", name := "decisive", desc := "(II)I" } : Jvm.MethodName)) ∈ mj_tbl := mj_w 1646 (by decide +kernel) (by decide +kernel)
theorem tw1594 : (Jvm.Cond.selects "LeaseLandModel" ({ cls := "LeaseLandModel", name := "decisive", desc := "(II)I" } : Jvm.MethodName) ({ cls := "LeaseLandModel", name := "decisive", desc := "(II)I" } : Jvm.MethodName)) ∈ mj_tbl := mj_w 1647 (by decide +kernel) (by decide +kernel)
theorem ty_X12_decisive : mj_YV 12 yX12_decisive cX12_decisive 8 (some .int) 2 := ⟨⟨tw1595, tw11, by decide +kernel, by decide +kernel, by decide +kernel⟩, tw1593, tw1594, _, rfl, rfl⟩
theorem tw1738 : (Jvm.Cond.code ({ cls := "LeaseLandModel", name := "doubt", desc := "(I)J" } : Jvm.MethodName) prog_14_method_93_code (7 : Nat) (Option.some Jvm.ClassFile.FieldType.long)) ∈ mj_tbl := mj_w 1791 (by decide +kernel) (by decide +kernel)
theorem tw1736 : (Jvm.Cond.instanceMethod ({ cls := "LeaseLandModel", name := "doubt", desc := "(I)J" } : Jvm.MethodName)) ∈ mj_tbl := mj_w 1789 (by decide +kernel) (by decide +kernel)
theorem tw1737 : (Jvm.Cond.selects "LeaseLandModel" ({ cls := "LeaseLandModel", name := "doubt", desc := "(I)J" } : Jvm.MethodName) ({ cls := "LeaseLandModel", name := "doubt", desc := "(I)J" } : Jvm.MethodName)) ∈ mj_tbl := mj_w 1790 (by decide +kernel) (by decide +kernel)
theorem ty_X12_doubt : mj_YV 12 yX12_doubt cX12_doubt 7 (some .long) 1 := ⟨⟨tw1738, tw11, by decide +kernel, by decide +kernel, by decide +kernel⟩, tw1736, tw1737, _, rfl, rfl⟩
theorem tw1823 : (Jvm.Cond.code ({ cls := "LeaseLandModel", name := "doubted", desc := "(I)I" } : Jvm.MethodName) prog_14_method_112_code (6 : Nat) (Option.some Jvm.ClassFile.FieldType.int)) ∈ mj_tbl := mj_w 1876 (by decide +kernel) (by decide +kernel)
theorem tw1821 : (Jvm.Cond.instanceMethod ({ cls := "LeaseLandModel", name := "doubted", desc := "(I)I" } : Jvm.MethodName)) ∈ mj_tbl := mj_w 1874 (by decide +kernel) (by decide +kernel)
theorem tw1822 : (Jvm.Cond.selects "LeaseLandModel" ({ cls := "LeaseLandModel", name := "doubted", desc := "(I)I" } : Jvm.MethodName) ({ cls := "LeaseLandModel", name := "doubted", desc := "(I)I" } : Jvm.MethodName)) ∈ mj_tbl := mj_w 1875 (by decide +kernel) (by decide +kernel)
theorem ty_X12_doubted : mj_YV 12 yX12_doubted cX12_doubted 6 (some .int) 1 := ⟨⟨tw1823, tw11, by decide +kernel, by decide +kernel, by decide +kernel⟩, tw1821, tw1822, _, rfl, rfl⟩
theorem tw1459 : (Jvm.Cond.code ({ cls := "LeaseLandModel", name := "end", desc := "(II)I" } : Jvm.MethodName) prog_14_method_28_code (4 : Nat) (Option.some Jvm.ClassFile.FieldType.int)) ∈ mj_tbl := mj_w 1512 (by decide +kernel) (by decide +kernel)
theorem tw1457 : (Jvm.Cond.instanceMethod ({ cls := "LeaseLandModel", name := "end", desc := "(II)I" } : Jvm.MethodName)) ∈ mj_tbl := mj_w 1510 (by decide +kernel) (by decide +kernel)
theorem tw1458 : (Jvm.Cond.selects "LeaseLandModel" ({ cls := "LeaseLandModel", name := "end", desc := "(II)I" } : Jvm.MethodName) ({ cls := "LeaseLandModel", name := "end", desc := "(II)I" } : Jvm.MethodName)) ∈ mj_tbl := mj_w 1511 (by decide +kernel) (by decide +kernel)
theorem ty_X12_end : mj_YV 12 yX12_end cX12_end 4 (some .int) 2 := ⟨⟨tw1459, tw11, by decide +kernel, by decide +kernel, by decide +kernel⟩, tw1457, tw1458, _, rfl, rfl⟩
theorem tw1599 : (Jvm.Cond.code ({ cls := "LeaseLandModel", name := "fact", desc := "(II)I" } : Jvm.MethodName) prog_14_method_59_code (3 : Nat) (Option.some Jvm.ClassFile.FieldType.int)) ∈ mj_tbl := mj_w 1652 (by decide +kernel) (by decide +kernel)
theorem tw1597 : (Jvm.Cond.instanceMethod ({ cls := "LeaseLandModel", name := "fact", desc := "(II)I" } : Jvm.MethodName)) ∈ mj_tbl := mj_w 1650 (by decide +kernel) (by decide +kernel)
theorem tw1598 : (Jvm.Cond.selects "LeaseLandModel" ({ cls := "LeaseLandModel", name := "fact", desc := "(II)I" } : Jvm.MethodName) ({ cls := "LeaseLandModel", name := "fact", desc := "(II)I" } : Jvm.MethodName)) ∈ mj_tbl := mj_w 1651 (by decide +kernel) (by decide +kernel)
theorem ty_X12_fact : mj_YV 12 yX12_fact cX12_fact 3 (some .int) 2 := ⟨⟨tw1599, tw11, by decide +kernel, by decide +kernel, by decide +kernel⟩, tw1597, tw1598, _, rfl, rfl⟩
theorem tw1533 : (Jvm.Cond.code ({ cls := "LeaseLandModel", name := "fault", desc := "()I" } : Jvm.MethodName) prog_14_method_47_code (1 : Nat) (Option.some Jvm.ClassFile.FieldType.int)) ∈ mj_tbl := mj_w 1586 (by decide +kernel) (by decide +kernel)
theorem tw1531 : (Jvm.Cond.instanceMethod ({ cls := "LeaseLandModel", name := "fault", desc := "()I" } : Jvm.MethodName)) ∈ mj_tbl := mj_w 1584 (by decide +kernel) (by decide +kernel)
theorem tw1532 : (Jvm.Cond.selects "LeaseLandModel" ({ cls := "LeaseLandModel", name := "fault", desc := "()I" } : Jvm.MethodName) ({ cls := "LeaseLandModel", name := "fault", desc := "()I" } : Jvm.MethodName)) ∈ mj_tbl := mj_w 1585 (by decide +kernel) (by decide +kernel)
theorem ty_X12_fault : mj_YV 12 yX12_fault cX12_fault 1 (some .int) 0 := ⟨⟨tw1533, tw11, by decide +kernel, by decide +kernel, by decide +kernel⟩, tw1531, tw1532, _, rfl, rfl⟩
theorem tw1603 : (Jvm.Cond.code ({ cls := "LeaseLandModel", name := "first", desc := "(II)I" } : Jvm.MethodName) prog_14_method_60_code (4 : Nat) (Option.some Jvm.ClassFile.FieldType.int)) ∈ mj_tbl := mj_w 1656 (by decide +kernel) (by decide +kernel)
theorem tw1601 : (Jvm.Cond.instanceMethod ({ cls := "LeaseLandModel", name := "first", desc := "(II)I" } : Jvm.MethodName)) ∈ mj_tbl := mj_w 1654 (by decide +kernel) (by decide +kernel)
theorem tw1602 : (Jvm.Cond.selects "LeaseLandModel" ({ cls := "LeaseLandModel", name := "first", desc := "(II)I" } : Jvm.MethodName) ({ cls := "LeaseLandModel", name := "first", desc := "(II)I" } : Jvm.MethodName)) ∈ mj_tbl := mj_w 1655 (by decide +kernel) (by decide +kernel)
theorem ty_X12_first : mj_YV 12 yX12_first cX12_first 4 (some .int) 2 := ⟨⟨tw1603, tw11, by decide +kernel, by decide +kernel, by decide +kernel⟩, tw1601, tw1602, _, rfl, rfl⟩
theorem tw1795 : (Jvm.Cond.code ({ cls := "LeaseLandModel", name := "forfeit", desc := "(I)I" } : Jvm.MethodName) prog_14_method_105_code (2 : Nat) (Option.some Jvm.ClassFile.FieldType.int)) ∈ mj_tbl := mj_w 1848 (by decide +kernel) (by decide +kernel)
theorem tw1793 : (Jvm.Cond.instanceMethod ({ cls := "LeaseLandModel", name := "forfeit", desc := "(I)I" } : Jvm.MethodName)) ∈ mj_tbl := mj_w 1846 (by decide +kernel) (by decide +kernel)
theorem tw1794 : (Jvm.Cond.selects "LeaseLandModel" ({ cls := "LeaseLandModel", name := "forfeit", desc := "(I)I" } : Jvm.MethodName) ({ cls := "LeaseLandModel", name := "forfeit", desc := "(I)I" } : Jvm.MethodName)) ∈ mj_tbl := mj_w 1847 (by decide +kernel) (by decide +kernel)
theorem ty_X12_forfeit : mj_YV 12 yX12_forfeit cX12_forfeit 2 (some .int) 1 := ⟨⟨tw1795, tw11, by decide +kernel, by decide +kernel, by decide +kernel⟩, tw1793, tw1794, _, rfl, rfl⟩
theorem tw1207 : (Jvm.Cond.code ({ cls := "LeaseLandModel", name := "<init>", desc := "()V" } : Jvm.MethodName) prog_14_method_1_code (2 : Nat) (Option.none : Option Jvm.ClassFile.FieldType)) ∈ mj_tbl := mj_w 1260 (by decide +kernel) (by decide +kernel)
theorem tw1206 : (Jvm.Cond.instanceMethod ({ cls := "LeaseLandModel", name := "<init>", desc := "()V" } : Jvm.MethodName)) ∈ mj_tbl := mj_w 1259 (by decide +kernel) (by decide +kernel)
theorem ty_X12_init : mj_YI yX12_init cX12_init 2 0 := ⟨⟨tw1207, tw11, by decide +kernel, by decide +kernel, by decide +kernel⟩, tw1206, rfl⟩
theorem tw1723 : (Jvm.Cond.code ({ cls := "LeaseLandModel", name := "learned", desc := "(III)J" } : Jvm.MethodName) prog_14_method_92_code (4 : Nat) (Option.some Jvm.ClassFile.FieldType.long)) ∈ mj_tbl := mj_w 1776 (by decide +kernel) (by decide +kernel)
theorem tw1721 : (Jvm.Cond.instanceMethod ({ cls := "LeaseLandModel", name := "learned", desc := "(III)J" } : Jvm.MethodName)) ∈ mj_tbl := mj_w 1774 (by decide +kernel) (by decide +kernel)
theorem tw1722 : (Jvm.Cond.selects "LeaseLandModel" ({ cls := "LeaseLandModel", name := "learned", desc := "(III)J" } : Jvm.MethodName) ({ cls := "LeaseLandModel", name := "learned", desc := "(III)J" } : Jvm.MethodName)) ∈ mj_tbl := mj_w 1775 (by decide +kernel) (by decide +kernel)
theorem ty_X12_learned : mj_YV 12 yX12_learned cX12_learned 4 (some .long) 3 := ⟨⟨tw1723, tw11, by decide +kernel, by decide +kernel, by decide +kernel⟩, tw1721, tw1722, _, rfl, rfl⟩
theorem tw1402 : (Jvm.Cond.code ({ cls := "LeaseLandModel", name := "lease", desc := "(IIIII)I" } : Jvm.MethodName) prog_14_method_21_code (8 : Nat) (Option.some Jvm.ClassFile.FieldType.int)) ∈ mj_tbl := mj_w 1455 (by decide +kernel) (by decide +kernel)
theorem tw1400 : (Jvm.Cond.instanceMethod ({ cls := "LeaseLandModel", name := "lease", desc := "(IIIII)I" } : Jvm.MethodName)) ∈ mj_tbl := mj_w 1453 (by decide +kernel) (by decide +kernel)
theorem tw1401 : (Jvm.Cond.selects "LeaseLandModel" ({ cls := "LeaseLandModel", name := "lease", desc := "(IIIII)I" } : Jvm.MethodName) ({ cls := "LeaseLandModel", name := "lease", desc := "(IIIII)I" } : Jvm.MethodName)) ∈ mj_tbl := mj_w 1454 (by decide +kernel) (by decide +kernel)
theorem ty_X12_lease : mj_YV 12 yX12_lease cX12_lease 8 (some .int) 5 := ⟨⟨tw1402, tw11, by decide +kernel, by decide +kernel, by decide +kernel⟩, tw1400, tw1401, _, rfl, rfl⟩
theorem tw1803 : (Jvm.Cond.code ({ cls := "LeaseLandModel", name := "line", desc := "(IIII)I" } : Jvm.MethodName) prog_14_method_107_code (5 : Nat) (Option.some Jvm.ClassFile.FieldType.int)) ∈ mj_tbl := mj_w 1856 (by decide +kernel) (by decide +kernel)
theorem tw1801 : (Jvm.Cond.instanceMethod ({ cls := "LeaseLandModel", name := "line", desc := "(IIII)I" } : Jvm.MethodName)) ∈ mj_tbl := mj_w 1854 (by decide +kernel) (by decide +kernel)
theorem tw1802 : (Jvm.Cond.selects "LeaseLandModel" ({ cls := "LeaseLandModel", name := "line", desc := "(IIII)I" } : Jvm.MethodName) ({ cls := "LeaseLandModel", name := "line", desc := "(IIII)I" } : Jvm.MethodName)) ∈ mj_tbl := mj_w 1855 (by decide +kernel) (by decide +kernel)
theorem ty_X12_line : mj_YV 12 yX12_line cX12_line 5 (some .int) 4 := ⟨⟨tw1803, tw11, by decide +kernel, by decide +kernel, by decide +kernel⟩, tw1801, tw1802, _, rfl, rfl⟩
theorem tw1491 : (Jvm.Cond.code ({ cls := "LeaseLandModel", name := "live", desc := "(II)I" } : Jvm.MethodName) prog_14_method_35_code (4 : Nat) (Option.some Jvm.ClassFile.FieldType.int)) ∈ mj_tbl := mj_w 1544 (by decide +kernel) (by decide +kernel)
theorem tw1489 : (Jvm.Cond.instanceMethod ({ cls := "LeaseLandModel", name := "live", desc := "(II)I" } : Jvm.MethodName)) ∈ mj_tbl := mj_w 1542 (by decide +kernel) (by decide +kernel)
theorem tw1490 : (Jvm.Cond.selects "LeaseLandModel" ({ cls := "LeaseLandModel", name := "live", desc := "(II)I" } : Jvm.MethodName) ({ cls := "LeaseLandModel", name := "live", desc := "(II)I" } : Jvm.MethodName)) ∈ mj_tbl := mj_w 1543 (by decide +kernel) (by decide +kernel)
theorem ty_X12_live : mj_YV 12 yX12_live cX12_live 4 (some .int) 2 := ⟨⟨tw1491, tw11, by decide +kernel, by decide +kernel, by decide +kernel⟩, tw1489, tw1490, _, rfl, rfl⟩
theorem tw1766 : (Jvm.Cond.code ({ cls := "LeaseLandModel", name := "may", desc := "(II)I" } : Jvm.MethodName) prog_14_method_102_code (4 : Nat) (Option.some Jvm.ClassFile.FieldType.int)) ∈ mj_tbl := mj_w 1819 (by decide +kernel) (by decide +kernel)
theorem tw1764 : (Jvm.Cond.instanceMethod ({ cls := "LeaseLandModel", name := "may", desc := "(II)I" } : Jvm.MethodName)) ∈ mj_tbl := mj_w 1817 (by decide +kernel) (by decide +kernel)
theorem tw1765 : (Jvm.Cond.selects "LeaseLandModel" ({ cls := "LeaseLandModel", name := "may", desc := "(II)I" } : Jvm.MethodName) ({ cls := "LeaseLandModel", name := "may", desc := "(II)I" } : Jvm.MethodName)) ∈ mj_tbl := mj_w 1818 (by decide +kernel) (by decide +kernel)
theorem ty_X12_may : mj_YV 12 yX12_may cX12_may 4 (some .int) 2 := ⟨⟨tw1766, tw11, by decide +kernel, by decide +kernel, by decide +kernel⟩, tw1764, tw1765, _, rfl, rfl⟩
theorem tw1787 : (Jvm.Cond.code ({ cls := "LeaseLandModel", name := "more", desc := "(II)I" } : Jvm.MethodName) prog_14_method_103_code (7 : Nat) (Option.some Jvm.ClassFile.FieldType.int)) ∈ mj_tbl := mj_w 1840 (by decide +kernel) (by decide +kernel)
theorem tw1785 : (Jvm.Cond.instanceMethod ({ cls := "LeaseLandModel", name := "more", desc := "(II)I" } : Jvm.MethodName)) ∈ mj_tbl := mj_w 1838 (by decide +kernel) (by decide +kernel)
theorem tw1786 : (Jvm.Cond.selects "LeaseLandModel" ({ cls := "LeaseLandModel", name := "more", desc := "(II)I" } : Jvm.MethodName) ({ cls := "LeaseLandModel", name := "more", desc := "(II)I" } : Jvm.MethodName)) ∈ mj_tbl := mj_w 1839 (by decide +kernel) (by decide +kernel)
theorem ty_X12_more : mj_YV 12 yX12_more cX12_more 7 (some .int) 2 := ⟨⟨tw1787, tw11, by decide +kernel, by decide +kernel, by decide +kernel⟩, tw1785, tw1786, _, rfl, rfl⟩
theorem tw1607 : (Jvm.Cond.code ({ cls := "LeaseLandModel", name := "notice", desc := "(II)I" } : Jvm.MethodName) prog_14_method_63_code (4 : Nat) (Option.some Jvm.ClassFile.FieldType.int)) ∈ mj_tbl := mj_w 1660 (by decide +kernel) (by decide +kernel)
theorem tw1605 : (Jvm.Cond.instanceMethod ({ cls := "LeaseLandModel", name := "notice", desc := "(II)I" } : Jvm.MethodName)) ∈ mj_tbl := mj_w 1658 (by decide +kernel) (by decide +kernel)
theorem tw1606 : (Jvm.Cond.selects "LeaseLandModel" ({ cls := "LeaseLandModel", name := "notice", desc := "(II)I" } : Jvm.MethodName) ({ cls := "LeaseLandModel", name := "notice", desc := "(II)I" } : Jvm.MethodName)) ∈ mj_tbl := mj_w 1659 (by decide +kernel) (by decide +kernel)
theorem ty_X12_notice : mj_YV 12 yX12_notice cX12_notice 4 (some .int) 2 := ⟨⟨tw1607, tw11, by decide +kernel, by decide +kernel, by decide +kernel⟩, tw1605, tw1606, _, rfl, rfl⟩
theorem tw1512 : (Jvm.Cond.code ({ cls := "LeaseLandModel", name := "owed", desc := "(III)J" } : Jvm.MethodName) prog_14_method_39_code (7 : Nat) (Option.some Jvm.ClassFile.FieldType.long)) ∈ mj_tbl := mj_w 1565 (by decide +kernel) (by decide +kernel)
theorem tw1510 : (Jvm.Cond.instanceMethod ({ cls := "LeaseLandModel", name := "owed", desc := "(III)J" } : Jvm.MethodName)) ∈ mj_tbl := mj_w 1563 (by decide +kernel) (by decide +kernel)
theorem tw1511 : (Jvm.Cond.selects "LeaseLandModel" ({ cls := "LeaseLandModel", name := "owed", desc := "(III)J" } : Jvm.MethodName) ({ cls := "LeaseLandModel", name := "owed", desc := "(III)J" } : Jvm.MethodName)) ∈ mj_tbl := mj_w 1564 (by decide +kernel) (by decide +kernel)
theorem ty_X12_owed : mj_YV 12 yX12_owed cX12_owed 7 (some .long) 3 := ⟨⟨tw1512, tw11, by decide +kernel, by decide +kernel, by decide +kernel⟩, tw1510, tw1511, _, rfl, rfl⟩
theorem tw1447 : (Jvm.Cond.code ({ cls := "LeaseLandModel", name := "part", desc := "(III)I" } : Jvm.MethodName) prog_14_method_25_code (8 : Nat) (Option.some Jvm.ClassFile.FieldType.int)) ∈ mj_tbl := mj_w 1500 (by decide +kernel) (by decide +kernel)
theorem tw1445 : (Jvm.Cond.instanceMethod ({ cls := "LeaseLandModel", name := "part", desc := "(III)I" } : Jvm.MethodName)) ∈ mj_tbl := mj_w 1498 (by decide +kernel) (by decide +kernel)
theorem tw1446 : (Jvm.Cond.selects "LeaseLandModel" ({ cls := "LeaseLandModel", name := "part", desc := "(III)I" } : Jvm.MethodName) ({ cls := "LeaseLandModel", name := "part", desc := "(III)I" } : Jvm.MethodName)) ∈ mj_tbl := mj_w 1499 (by decide +kernel) (by decide +kernel)
theorem ty_X12_part : mj_YV 12 yX12_part cX12_part 8 (some .int) 3 := ⟨⟨tw1447, tw11, by decide +kernel, by decide +kernel, by decide +kernel⟩, tw1445, tw1446, _, rfl, rfl⟩
theorem tw1685 : (Jvm.Cond.code ({ cls := "LeaseLandModel", name := "point", desc := "(II)I" } : Jvm.MethodName) prog_14_method_80_code (3 : Nat) (Option.some Jvm.ClassFile.FieldType.int)) ∈ mj_tbl := mj_w 1738 (by decide +kernel) (by decide +kernel)
theorem tw1683 : (Jvm.Cond.instanceMethod ({ cls := "LeaseLandModel", name := "point", desc := "(II)I" } : Jvm.MethodName)) ∈ mj_tbl := mj_w 1736 (by decide +kernel) (by decide +kernel)
theorem tw1684 : (Jvm.Cond.selects "LeaseLandModel" ({ cls := "LeaseLandModel", name := "point", desc := "(II)I" } : Jvm.MethodName) ({ cls := "LeaseLandModel", name := "point", desc := "(II)I" } : Jvm.MethodName)) ∈ mj_tbl := mj_w 1737 (by decide +kernel) (by decide +kernel)
theorem ty_X12_point : mj_YV 12 yX12_point cX12_point 3 (some .int) 2 := ⟨⟨tw1685, tw11, by decide +kernel, by decide +kernel, by decide +kernel⟩, tw1683, tw1684, _, rfl, rfl⟩
theorem tw1747 : (Jvm.Cond.code ({ cls := "LeaseLandModel", name := "price", desc := "(II)J" } : Jvm.MethodName) prog_14_method_96_code (3 : Nat) (Option.some Jvm.ClassFile.FieldType.long)) ∈ mj_tbl := mj_w 1800 (by decide +kernel) (by decide +kernel)
theorem tw1745 : (Jvm.Cond.instanceMethod ({ cls := "LeaseLandModel", name := "price", desc := "(II)J" } : Jvm.MethodName)) ∈ mj_tbl := mj_w 1798 (by decide +kernel) (by decide +kernel)
theorem tw1746 : (Jvm.Cond.selects "LeaseLandModel" ({ cls := "LeaseLandModel", name := "price", desc := "(II)J" } : Jvm.MethodName) ({ cls := "LeaseLandModel", name := "price", desc := "(II)J" } : Jvm.MethodName)) ∈ mj_tbl := mj_w 1799 (by decide +kernel) (by decide +kernel)
theorem ty_X12_price : mj_YV 12 yX12_price cX12_price 3 (some .long) 2 := ⟨⟨tw1747, tw11, by decide +kernel, by decide +kernel, by decide +kernel⟩, tw1745, tw1746, _, rfl, rfl⟩
theorem tw1501 : (Jvm.Cond.code ({ cls := "LeaseLandModel", name := "rate", desc := "(II)I" } : Jvm.MethodName) prog_14_method_38_code (3 : Nat) (Option.some Jvm.ClassFile.FieldType.int)) ∈ mj_tbl := mj_w 1554 (by decide +kernel) (by decide +kernel)
theorem tw1499 : (Jvm.Cond.instanceMethod ({ cls := "LeaseLandModel", name := "rate", desc := "(II)I" } : Jvm.MethodName)) ∈ mj_tbl := mj_w 1552 (by decide +kernel) (by decide +kernel)
theorem tw1500 : (Jvm.Cond.selects "LeaseLandModel" ({ cls := "LeaseLandModel", name := "rate", desc := "(II)I" } : Jvm.MethodName) ({ cls := "LeaseLandModel", name := "rate", desc := "(II)I" } : Jvm.MethodName)) ∈ mj_tbl := mj_w 1553 (by decide +kernel) (by decide +kernel)
theorem ty_X12_rate : mj_YV 12 yX12_rate cX12_rate 3 (some .int) 2 := ⟨⟨tw1501, tw11, by decide +kernel, by decide +kernel, by decide +kernel⟩, tw1499, tw1500, _, rfl, rfl⟩
theorem tw1799 : (Jvm.Cond.code ({ cls := "LeaseLandModel", name := "relieve", desc := "(I)I" } : Jvm.MethodName) prog_14_method_106_code (5 : Nat) (Option.some Jvm.ClassFile.FieldType.int)) ∈ mj_tbl := mj_w 1852 (by decide +kernel) (by decide +kernel)
theorem tw1797 : (Jvm.Cond.instanceMethod ({ cls := "LeaseLandModel", name := "relieve", desc := "(I)I" } : Jvm.MethodName)) ∈ mj_tbl := mj_w 1850 (by decide +kernel) (by decide +kernel)
theorem tw1798 : (Jvm.Cond.selects "LeaseLandModel" ({ cls := "LeaseLandModel", name := "relieve", desc := "(I)I" } : Jvm.MethodName) ({ cls := "LeaseLandModel", name := "relieve", desc := "(I)I" } : Jvm.MethodName)) ∈ mj_tbl := mj_w 1851 (by decide +kernel) (by decide +kernel)
theorem ty_X12_relieve : mj_YV 12 yX12_relieve cX12_relieve 5 (some .int) 1 := ⟨⟨tw1799, tw11, by decide +kernel, by decide +kernel, by decide +kernel⟩, tw1797, tw1798, _, rfl, rfl⟩
theorem tw1495 : (Jvm.Cond.code ({ cls := "LeaseLandModel", name := "rent", desc := "(III)I" } : Jvm.MethodName) prog_14_method_36_code (5 : Nat) (Option.some Jvm.ClassFile.FieldType.int)) ∈ mj_tbl := mj_w 1548 (by decide +kernel) (by decide +kernel)
theorem tw1493 : (Jvm.Cond.instanceMethod ({ cls := "LeaseLandModel", name := "rent", desc := "(III)I" } : Jvm.MethodName)) ∈ mj_tbl := mj_w 1546 (by decide +kernel) (by decide +kernel)
theorem tw1494 : (Jvm.Cond.selects "LeaseLandModel" ({ cls := "LeaseLandModel", name := "rent", desc := "(III)I" } : Jvm.MethodName) ({ cls := "LeaseLandModel", name := "rent", desc := "(III)I" } : Jvm.MethodName)) ∈ mj_tbl := mj_w 1547 (by decide +kernel) (by decide +kernel)
theorem ty_X12_rent : mj_YV 12 yX12_rent cX12_rent 5 (some .int) 3 := ⟨⟨tw1495, tw11, by decide +kernel, by decide +kernel, by decide +kernel⟩, tw1493, tw1494, _, rfl, rfl⟩
theorem tw1560 : (Jvm.Cond.code ({ cls := "LeaseLandModel", name := "right", desc := "(II)I" } : Jvm.MethodName) prog_14_method_57_code (3 : Nat) (Option.some Jvm.ClassFile.FieldType.int)) ∈ mj_tbl := mj_w 1613 (by decide +kernel) (by decide +kernel)
theorem tw1558 : (Jvm.Cond.instanceMethod ({ cls := "LeaseLandModel", name := "right", desc := "(II)I" } : Jvm.MethodName)) ∈ mj_tbl := mj_w 1611 (by decide +kernel) (by decide +kernel)
theorem tw1559 : (Jvm.Cond.selects "LeaseLandModel" ({ cls := "LeaseLandModel", name := "right", desc := "(II)I" } : Jvm.MethodName) ({ cls := "LeaseLandModel", name := "right", desc := "(II)I" } : Jvm.MethodName)) ∈ mj_tbl := mj_w 1612 (by decide +kernel) (by decide +kernel)
theorem ty_X12_right : mj_YV 12 yX12_right cX12_right 3 (some .int) 2 := ⟨⟨tw1560, tw11, by decide +kernel, by decide +kernel, by decide +kernel⟩, tw1558, tw1559, _, rfl, rfl⟩
theorem tw1719 : (Jvm.Cond.code ({ cls := "LeaseLandModel", name := "sale", desc := "(II)I" } : Jvm.MethodName) prog_14_method_88_code (3 : Nat) (Option.some Jvm.ClassFile.FieldType.int)) ∈ mj_tbl := mj_w 1772 (by decide +kernel) (by decide +kernel)
theorem tw1717 : (Jvm.Cond.instanceMethod ({ cls := "LeaseLandModel", name := "sale", desc := "(II)I" } : Jvm.MethodName)) ∈ mj_tbl := mj_w 1770 (by decide +kernel) (by decide +kernel)
theorem tw1718 : (Jvm.Cond.selects "LeaseLandModel" ({ cls := "LeaseLandModel", name := "sale", desc := "(II)I" } : Jvm.MethodName) ({ cls := "LeaseLandModel", name := "sale", desc := "(II)I" } : Jvm.MethodName)) ∈ mj_tbl := mj_w 1771 (by decide +kernel) (by decide +kernel)
theorem ty_X12_sale : mj_YV 12 yX12_sale cX12_sale 3 (some .int) 2 := ⟨⟨tw1719, tw11, by decide +kernel, by decide +kernel, by decide +kernel⟩, tw1717, tw1718, _, rfl, rfl⟩
theorem tw1523 : (Jvm.Cond.code ({ cls := "LeaseLandModel", name := "say", desc := "(I)I" } : Jvm.MethodName) prog_14_method_41_code (2 : Nat) (Option.some Jvm.ClassFile.FieldType.int)) ∈ mj_tbl := mj_w 1576 (by decide +kernel) (by decide +kernel)
theorem tw1521 : (Jvm.Cond.instanceMethod ({ cls := "LeaseLandModel", name := "say", desc := "(I)I" } : Jvm.MethodName)) ∈ mj_tbl := mj_w 1574 (by decide +kernel) (by decide +kernel)
theorem tw1522 : (Jvm.Cond.selects "LeaseLandModel" ({ cls := "LeaseLandModel", name := "say", desc := "(I)I" } : Jvm.MethodName) ({ cls := "LeaseLandModel", name := "say", desc := "(I)I" } : Jvm.MethodName)) ∈ mj_tbl := mj_w 1575 (by decide +kernel) (by decide +kernel)
theorem ty_X12_say : mj_YV 12 yX12_say cX12_say 2 (some .int) 1 := ⟨⟨tw1523, tw11, by decide +kernel, by decide +kernel, by decide +kernel⟩, tw1521, tw1522, _, rfl, rfl⟩
theorem tw1439 : (Jvm.Cond.code ({ cls := "LeaseLandModel", name := "sell", desc := "(II)I" } : Jvm.MethodName) prog_14_method_23_code (4 : Nat) (Option.some Jvm.ClassFile.FieldType.int)) ∈ mj_tbl := mj_w 1492 (by decide +kernel) (by decide +kernel)
theorem tw1437 : (Jvm.Cond.instanceMethod ({ cls := "LeaseLandModel", name := "sell", desc := "(II)I" } : Jvm.MethodName)) ∈ mj_tbl := mj_w 1490 (by decide +kernel) (by decide +kernel)
theorem tw1438 : (Jvm.Cond.selects "LeaseLandModel" ({ cls := "LeaseLandModel", name := "sell", desc := "(II)I" } : Jvm.MethodName) ({ cls := "LeaseLandModel", name := "sell", desc := "(II)I" } : Jvm.MethodName)) ∈ mj_tbl := mj_w 1491 (by decide +kernel) (by decide +kernel)
theorem ty_X12_sell : mj_YV 12 yX12_sell cX12_sell 4 (some .int) 2 := ⟨⟨tw1439, tw11, by decide +kernel, by decide +kernel, by decide +kernel⟩, tw1437, tw1438, _, rfl, rfl⟩
theorem tw1742 : (Jvm.Cond.code ({ cls := "LeaseLandModel", name := "set", desc := "(II)I" } : Jvm.MethodName) prog_14_method_94_code (4 : Nat) (Option.some Jvm.ClassFile.FieldType.int)) ∈ mj_tbl := mj_w 1795 (by decide +kernel) (by decide +kernel)
theorem tw1740 : (Jvm.Cond.instanceMethod ({ cls := "LeaseLandModel", name := "set", desc := "(II)I" } : Jvm.MethodName)) ∈ mj_tbl := mj_w 1793 (by decide +kernel) (by decide +kernel)
theorem tw1741 : (Jvm.Cond.selects "LeaseLandModel" ({ cls := "LeaseLandModel", name := "set", desc := "(II)I" } : Jvm.MethodName) ({ cls := "LeaseLandModel", name := "set", desc := "(II)I" } : Jvm.MethodName)) ∈ mj_tbl := mj_w 1794 (by decide +kernel) (by decide +kernel)
theorem ty_X12_set : mj_YV 12 yX12_set cX12_set 4 (some .int) 2 := ⟨⟨tw1742, tw11, by decide +kernel, by decide +kernel, by decide +kernel⟩, tw1740, tw1741, _, rfl, rfl⟩
theorem tw1757 : (Jvm.Cond.code ({ cls := "LeaseLandModel", name := "share", desc := "(II)J" } : Jvm.MethodName) prog_14_method_98_code (6 : Nat) (Option.some Jvm.ClassFile.FieldType.long)) ∈ mj_tbl := mj_w 1810 (by decide +kernel) (by decide +kernel)
theorem tw1755 : (Jvm.Cond.instanceMethod ({ cls := "LeaseLandModel", name := "share", desc := "(II)J" } : Jvm.MethodName)) ∈ mj_tbl := mj_w 1808 (by decide +kernel) (by decide +kernel)
theorem tw1756 : (Jvm.Cond.selects "LeaseLandModel" ({ cls := "LeaseLandModel", name := "share", desc := "(II)J" } : Jvm.MethodName) ({ cls := "LeaseLandModel", name := "share", desc := "(II)J" } : Jvm.MethodName)) ∈ mj_tbl := mj_w 1809 (by decide +kernel) (by decide +kernel)
theorem ty_X12_share : mj_YV 12 yX12_share cX12_share 6 (some .long) 2 := ⟨⟨tw1757, tw11, by decide +kernel, by decide +kernel, by decide +kernel⟩, tw1755, tw1756, _, rfl, rfl⟩
theorem tw1635 : (Jvm.Cond.code ({ cls := "LeaseLandModel", name := "status", desc := "(I)I" } : Jvm.MethodName) prog_14_method_68_code (2 : Nat) (Option.some Jvm.ClassFile.FieldType.int)) ∈ mj_tbl := mj_w 1688 (by decide +kernel) (by decide +kernel)
theorem tw1633 : (Jvm.Cond.instanceMethod ({ cls := "LeaseLandModel", name := "status", desc := "(I)I" } : Jvm.MethodName)) ∈ mj_tbl := mj_w 1686 (by decide +kernel) (by decide +kernel)
theorem tw1634 : (Jvm.Cond.selects "LeaseLandModel" ({ cls := "LeaseLandModel", name := "status", desc := "(I)I" } : Jvm.MethodName) ({ cls := "LeaseLandModel", name := "status", desc := "(I)I" } : Jvm.MethodName)) ∈ mj_tbl := mj_w 1687 (by decide +kernel) (by decide +kernel)
theorem ty_X12_status : mj_YV 12 yX12_status cX12_status 2 (some .int) 1 := ⟨⟨tw1635, tw11, by decide +kernel, by decide +kernel, by decide +kernel⟩, tw1633, tw1634, _, rfl, rfl⟩
theorem tw1676 : (Jvm.Cond.code ({ cls := "LeaseLandModel", name := "stay", desc := "(I)I" } : Jvm.MethodName) prog_14_method_78_code (4 : Nat) (Option.some Jvm.ClassFile.FieldType.int)) ∈ mj_tbl := mj_w 1729 (by decide +kernel) (by decide +kernel)
theorem tw1674 : (Jvm.Cond.instanceMethod ({ cls := "LeaseLandModel", name := "stay", desc := "(I)I" } : Jvm.MethodName)) ∈ mj_tbl := mj_w 1727 (by decide +kernel) (by decide +kernel)
theorem tw1675 : (Jvm.Cond.selects "LeaseLandModel" ({ cls := "LeaseLandModel", name := "stay", desc := "(I)I" } : Jvm.MethodName) ({ cls := "LeaseLandModel", name := "stay", desc := "(I)I" } : Jvm.MethodName)) ∈ mj_tbl := mj_w 1728 (by decide +kernel) (by decide +kernel)
theorem ty_X12_stay : mj_YV 12 yX12_stay cX12_stay 4 (some .int) 1 := ⟨⟨tw1676, tw11, by decide +kernel, by decide +kernel, by decide +kernel⟩, tw1674, tw1675, _, rfl, rfl⟩
theorem tw1695 : (Jvm.Cond.code ({ cls := "LeaseLandModel", name := "table", desc := "(I)I" } : Jvm.MethodName) prog_14_method_83_code (2 : Nat) (Option.some Jvm.ClassFile.FieldType.int)) ∈ mj_tbl := mj_w 1748 (by decide +kernel) (by decide +kernel)
theorem tw1693 : (Jvm.Cond.instanceMethod ({ cls := "LeaseLandModel", name := "table", desc := "(I)I" } : Jvm.MethodName)) ∈ mj_tbl := mj_w 1746 (by decide +kernel) (by decide +kernel)
theorem tw1694 : (Jvm.Cond.selects "LeaseLandModel" ({ cls := "LeaseLandModel", name := "table", desc := "(I)I" } : Jvm.MethodName) ({ cls := "LeaseLandModel", name := "table", desc := "(I)I" } : Jvm.MethodName)) ∈ mj_tbl := mj_w 1747 (by decide +kernel) (by decide +kernel)
theorem ty_X12_table : mj_YV 12 yX12_table cX12_table 2 (some .int) 1 := ⟨⟨tw1695, tw11, by decide +kernel, by decide +kernel, by decide +kernel⟩, tw1693, tw1694, _, rfl, rfl⟩
theorem tw1377 : (Jvm.Cond.code ({ cls := "LeaseLandModel", name := "today", desc := "(I)I" } : Jvm.MethodName) prog_14_method_14_code (3 : Nat) (Option.some Jvm.ClassFile.FieldType.int)) ∈ mj_tbl := mj_w 1430 (by decide +kernel) (by decide +kernel)
theorem tw1375 : (Jvm.Cond.instanceMethod ({ cls := "LeaseLandModel", name := "today", desc := "(I)I" } : Jvm.MethodName)) ∈ mj_tbl := mj_w 1428 (by decide +kernel) (by decide +kernel)
theorem tw1376 : (Jvm.Cond.selects "LeaseLandModel" ({ cls := "LeaseLandModel", name := "today", desc := "(I)I" } : Jvm.MethodName) ({ cls := "LeaseLandModel", name := "today", desc := "(I)I" } : Jvm.MethodName)) ∈ mj_tbl := mj_w 1429 (by decide +kernel) (by decide +kernel)
theorem ty_X12_today : mj_YV 12 yX12_today cX12_today 3 (some .int) 1 := ⟨⟨tw1377, tw11, by decide +kernel, by decide +kernel, by decide +kernel⟩, tw1375, tw1376, _, rfl, rfl⟩
theorem tw1827 : (Jvm.Cond.code ({ cls := "LeaseLandModel", name := "told", desc := "(I)I" } : Jvm.MethodName) prog_14_method_113_code (2 : Nat) (Option.some Jvm.ClassFile.FieldType.int)) ∈ mj_tbl := mj_w 1880 (by decide +kernel) (by decide +kernel)
theorem tw1825 : (Jvm.Cond.instanceMethod ({ cls := "LeaseLandModel", name := "told", desc := "(I)I" } : Jvm.MethodName)) ∈ mj_tbl := mj_w 1878 (by decide +kernel) (by decide +kernel)
theorem tw1826 : (Jvm.Cond.selects "LeaseLandModel" ({ cls := "LeaseLandModel", name := "told", desc := "(I)I" } : Jvm.MethodName) ({ cls := "LeaseLandModel", name := "told", desc := "(I)I" } : Jvm.MethodName)) ∈ mj_tbl := mj_w 1879 (by decide +kernel) (by decide +kernel)
theorem ty_X12_told : mj_YV 12 yX12_told cX12_told 2 (some .int) 1 := ⟨⟨tw1827, tw11, by decide +kernel, by decide +kernel, by decide +kernel⟩, tw1825, tw1826, _, rfl, rfl⟩
theorem tw1631 : (Jvm.Cond.code ({ cls := "LeaseLandModel", name := "tribunal", desc := "(IZ)I" } : Jvm.MethodName) prog_14_method_67_code (3 : Nat) (Option.some Jvm.ClassFile.FieldType.int)) ∈ mj_tbl := mj_w 1684 (by decide +kernel) (by decide +kernel)
theorem tw1629 : (Jvm.Cond.instanceMethod ({ cls := "LeaseLandModel", name := "tribunal", desc := "(IZ)I" } : Jvm.MethodName)) ∈ mj_tbl := mj_w 1682 (by decide +kernel) (by decide +kernel)
theorem tw1630 : (Jvm.Cond.selects "LeaseLandModel" ({ cls := "LeaseLandModel", name := "tribunal", desc := "(IZ)I" } : Jvm.MethodName) ({ cls := "LeaseLandModel", name := "tribunal", desc := "(IZ)I" } : Jvm.MethodName)) ∈ mj_tbl := mj_w 1683 (by decide +kernel) (by decide +kernel)
theorem ty_X12_tribunal : mj_YV 12 yX12_tribunal cX12_tribunal 3 (some .int) 2 := ⟨⟨tw1631, tw11, by decide +kernel, by decide +kernel, by decide +kernel⟩, tw1629, tw1630, _, rfl, rfl⟩
theorem tw1680 : (Jvm.Cond.code ({ cls := "LeaseLandModel", name := "value", desc := "(II)I" } : Jvm.MethodName) prog_14_method_79_code (4 : Nat) (Option.some Jvm.ClassFile.FieldType.int)) ∈ mj_tbl := mj_w 1733 (by decide +kernel) (by decide +kernel)
theorem tw1678 : (Jvm.Cond.instanceMethod ({ cls := "LeaseLandModel", name := "value", desc := "(II)I" } : Jvm.MethodName)) ∈ mj_tbl := mj_w 1731 (by decide +kernel) (by decide +kernel)
theorem tw1679 : (Jvm.Cond.selects "LeaseLandModel" ({ cls := "LeaseLandModel", name := "value", desc := "(II)I" } : Jvm.MethodName) ({ cls := "LeaseLandModel", name := "value", desc := "(II)I" } : Jvm.MethodName)) ∈ mj_tbl := mj_w 1732 (by decide +kernel) (by decide +kernel)
theorem ty_X12_value : mj_YV 12 yX12_value cX12_value 4 (some .int) 2 := ⟨⟨tw1680, tw11, by decide +kernel, by decide +kernel, by decide +kernel⟩, tw1678, tw1679, _, rfl, rfl⟩
theorem tw1519 : (Jvm.Cond.code ({ cls := "LeaseLandModel", name := "weight", desc := "(II)I" } : Jvm.MethodName) prog_14_method_40_code (4 : Nat) (Option.some Jvm.ClassFile.FieldType.int)) ∈ mj_tbl := mj_w 1572 (by decide +kernel) (by decide +kernel)
theorem tw1517 : (Jvm.Cond.instanceMethod ({ cls := "LeaseLandModel", name := "weight", desc := "(II)I" } : Jvm.MethodName)) ∈ mj_tbl := mj_w 1570 (by decide +kernel) (by decide +kernel)
theorem tw1518 : (Jvm.Cond.selects "LeaseLandModel" ({ cls := "LeaseLandModel", name := "weight", desc := "(II)I" } : Jvm.MethodName) ({ cls := "LeaseLandModel", name := "weight", desc := "(II)I" } : Jvm.MethodName)) ∈ mj_tbl := mj_w 1571 (by decide +kernel) (by decide +kernel)
theorem ty_X12_weight : mj_YV 12 yX12_weight cX12_weight 4 (some .int) 2 := ⟨⟨tw1519, tw11, by decide +kernel, by decide +kernel, by decide +kernel⟩, tw1517, tw1518, _, rfl, rfl⟩
theorem tw1385 : (Jvm.Cond.code ({ cls := "LeaseLandModel", name := "whole", desc := "(II)I" } : Jvm.MethodName) prog_14_method_16_code (4 : Nat) (Option.some Jvm.ClassFile.FieldType.int)) ∈ mj_tbl := mj_w 1438 (by decide +kernel) (by decide +kernel)
theorem tw1383 : (Jvm.Cond.instanceMethod ({ cls := "LeaseLandModel", name := "whole", desc := "(II)I" } : Jvm.MethodName)) ∈ mj_tbl := mj_w 1436 (by decide +kernel) (by decide +kernel)
theorem tw1384 : (Jvm.Cond.selects "LeaseLandModel" ({ cls := "LeaseLandModel", name := "whole", desc := "(II)I" } : Jvm.MethodName) ({ cls := "LeaseLandModel", name := "whole", desc := "(II)I" } : Jvm.MethodName)) ∈ mj_tbl := mj_w 1437 (by decide +kernel) (by decide +kernel)
theorem ty_X12_whole : mj_YV 12 yX12_whole cX12_whole 4 (some .int) 2 := ⟨⟨tw1385, tw11, by decide +kernel, by decide +kernel, by decide +kernel⟩, tw1383, tw1384, _, rfl, rfl⟩
theorem tw1529 : (Jvm.Cond.code ({ cls := "LeaseLandModel", name := "wipe", desc := "()I" } : Jvm.MethodName) prog_14_method_42_code (2 : Nat) (Option.some Jvm.ClassFile.FieldType.int)) ∈ mj_tbl := mj_w 1582 (by decide +kernel) (by decide +kernel)
theorem tw1527 : (Jvm.Cond.instanceMethod ({ cls := "LeaseLandModel", name := "wipe", desc := "()I" } : Jvm.MethodName)) ∈ mj_tbl := mj_w 1580 (by decide +kernel) (by decide +kernel)
theorem tw1528 : (Jvm.Cond.selects "LeaseLandModel" ({ cls := "LeaseLandModel", name := "wipe", desc := "()I" } : Jvm.MethodName) ({ cls := "LeaseLandModel", name := "wipe", desc := "()I" } : Jvm.MethodName)) ∈ mj_tbl := mj_w 1581 (by decide +kernel) (by decide +kernel)
theorem ty_X12_wipe : mj_YV 12 yX12_wipe cX12_wipe 2 (some .int) 0 := ⟨⟨tw1529, tw11, by decide +kernel, by decide +kernel, by decide +kernel⟩, tw1527, tw1528, _, rfl, rfl⟩
theorem tw1627 : (Jvm.Cond.code ({ cls := "LeaseLandModel", name := "withdraw", desc := "(I)I" } : Jvm.MethodName) prog_14_method_66_code (2 : Nat) (Option.some Jvm.ClassFile.FieldType.int)) ∈ mj_tbl := mj_w 1680 (by decide +kernel) (by decide +kernel)
theorem tw1625 : (Jvm.Cond.instanceMethod ({ cls := "LeaseLandModel", name := "withdraw", desc := "(I)I" } : Jvm.MethodName)) ∈ mj_tbl := mj_w 1678 (by decide +kernel) (by decide +kernel)
theorem tw1626 : (Jvm.Cond.selects "LeaseLandModel" ({ cls := "LeaseLandModel", name := "withdraw", desc := "(I)I" } : Jvm.MethodName) ({ cls := "LeaseLandModel", name := "withdraw", desc := "(I)I" } : Jvm.MethodName)) ∈ mj_tbl := mj_w 1679 (by decide +kernel) (by decide +kernel)
theorem ty_X12_withdraw : mj_YV 12 yX12_withdraw cX12_withdraw 2 (some .int) 1 := ⟨⟨tw1627, tw11, by decide +kernel, by decide +kernel, by decide +kernel⟩, tw1625, tw1626, _, rfl, rfl⟩
theorem tw1703 : (Jvm.Cond.code ({ cls := "LeaseLandModel", name := "worth", desc := "(I)I" } : Jvm.MethodName) prog_14_method_87_code (2 : Nat) (Option.some Jvm.ClassFile.FieldType.int)) ∈ mj_tbl := mj_w 1756 (by decide +kernel) (by decide +kernel)
theorem tw1701 : (Jvm.Cond.instanceMethod ({ cls := "LeaseLandModel", name := "worth", desc := "(I)I" } : Jvm.MethodName)) ∈ mj_tbl := mj_w 1754 (by decide +kernel) (by decide +kernel)
theorem tw1702 : (Jvm.Cond.selects "LeaseLandModel" ({ cls := "LeaseLandModel", name := "worth", desc := "(I)I" } : Jvm.MethodName) ({ cls := "LeaseLandModel", name := "worth", desc := "(I)I" } : Jvm.MethodName)) ∈ mj_tbl := mj_w 1755 (by decide +kernel) (by decide +kernel)
theorem ty_X12_worth : mj_YV 12 yX12_worth cX12_worth 2 (some .int) 1 := ⟨⟨tw1703, tw11, by decide +kernel, by decide +kernel, by decide +kernel⟩, tw1701, tw1702, _, rfl, rfl⟩
theorem dL_law_0 : decode code 0 = .ok (.new 7, 3) := by decide +kernel
theorem dL_law_3 : decode code 3 = .ok (.dup, 1) := by decide +kernel
theorem dL_law_4 : decode code 4 = .ok (.invokespecial 9, 3) := by decide +kernel
theorem dL_law_7 : decode code 7 = .ok (.astore_n 1, 1) := by decide +kernel
theorem dL_law_8 : decode code 8 = .ok (.new 10, 3) := by decide +kernel
theorem dL_law_11 : decode code 11 = .ok (.dup, 1) := by decide +kernel
theorem dL_law_12 : decode code 12 = .ok (.invokespecial 12, 3) := by decide +kernel
theorem dL_law_15 : decode code 15 = .ok (.astore_n 2, 1) := by decide +kernel
theorem dL_law_16 : decode code 16 = .ok (.iconst 0, 1) := by decide +kernel
theorem dL_law_17 : decode code 17 = .ok (.istore_n 3, 1) := by decide +kernel
theorem dL_law_18 : decode code 18 = .ok (.iload_n 3, 1) := by decide +kernel
theorem dL_law_19 : decode code 19 = .ok (.aload_n 0, 1) := by decide +kernel
theorem dL_law_20 : decode code 20 = .ok (.arraylength, 1) := by decide +kernel
theorem dL_law_21 : decode code 21 = .ok (.bipush 6, 2) := by decide +kernel
theorem dL_law_23 : decode code 23 = .ok (.isub, 1) := by decide +kernel
theorem dL_law_24 : decode code 24 = .ok (.if_icmp .gt 1816, 3) := by decide +kernel
theorem dL_law_27 : decode code 27 = .ok (.aload_n 0, 1) := by decide +kernel
theorem dL_law_28 : decode code 28 = .ok (.iload_n 3, 1) := by decide +kernel
theorem dL_law_29 : decode code 29 = .ok (.iaload, 1) := by decide +kernel
theorem dL_law_30 : decode code 30 = .ok (.bipush 63, 2) := by decide +kernel
theorem dL_law_32 : decode code 32 = .ok (.iand, 1) := by decide +kernel
theorem dL_law_33 : decode code 33 = .ok (.tableswitch 1801 0 48 #[211, 234, 267, 330, 393, 426, 469, 502, 535, 568, 601, 644, 677, 721, 754, 777, 790, 803, 836, 869, 902, 935, 968, 1001, 1050, 1073, 1122, 1145, 1168, 1191, 1224, 1257, 1270, 1293, 1316, 1349, 1393, 1417, 1450, 1484, 1518, 1551, 1584, 1633, 1656, 1679, 1732, 1755, 1778], 211) := by decide +kernel
theorem dL_law_244 : decode code 244 = .ok (.aload_n 1, 1) := by decide +kernel
theorem dL_law_245 : decode code 245 = .ok (.aload_n 0, 1) := by decide +kernel
theorem dL_law_246 : decode code 246 = .ok (.iload_n 3, 1) := by decide +kernel
theorem dL_law_247 : decode code 247 = .ok (.iconst 1, 1) := by decide +kernel
theorem dL_law_248 : decode code 248 = .ok (.iadd, 1) := by decide +kernel
theorem dL_law_249 : decode code 249 = .ok (.iaload, 1) := by decide +kernel
theorem dL_law_250 : decode code 250 = .ok (.invokevirtual 13, 3) := by decide +kernel
theorem dL_law_253 : decode code 253 = .ok (.aload_n 2, 1) := by decide +kernel
theorem dL_law_254 : decode code 254 = .ok (.aload_n 0, 1) := by decide +kernel
theorem dL_law_255 : decode code 255 = .ok (.iload_n 3, 1) := by decide +kernel
theorem dL_law_256 : decode code 256 = .ok (.iconst 1, 1) := by decide +kernel
theorem dL_law_257 : decode code 257 = .ok (.iadd, 1) := by decide +kernel
theorem dL_law_258 : decode code 258 = .ok (.iaload, 1) := by decide +kernel
theorem dL_law_259 : decode code 259 = .ok (.invokevirtual 17, 3) := by decide +kernel
theorem dL_law_262 : decode code 262 = .ok (.if_icmp .eq 1572, 3) := by decide +kernel
theorem dL_law_265 : decode code 265 = .ok (.iconst 0, 1) := by decide +kernel
theorem dL_law_266 : decode code 266 = .ok (.ireturn, 1) := by decide +kernel
theorem dL_law_267 : decode code 267 = .ok (.aload_n 1, 1) := by decide +kernel
theorem dL_law_268 : decode code 268 = .ok (.aload_n 0, 1) := by decide +kernel
theorem dL_law_269 : decode code 269 = .ok (.iload_n 3, 1) := by decide +kernel
theorem dL_law_270 : decode code 270 = .ok (.iconst 1, 1) := by decide +kernel
theorem dL_law_271 : decode code 271 = .ok (.iadd, 1) := by decide +kernel
theorem dL_law_272 : decode code 272 = .ok (.iaload, 1) := by decide +kernel
theorem dL_law_273 : decode code 273 = .ok (.aload_n 0, 1) := by decide +kernel
theorem dL_law_274 : decode code 274 = .ok (.iload_n 3, 1) := by decide +kernel
theorem dL_law_275 : decode code 275 = .ok (.iconst 2, 1) := by decide +kernel
theorem dL_law_276 : decode code 276 = .ok (.iadd, 1) := by decide +kernel
theorem dL_law_277 : decode code 277 = .ok (.iaload, 1) := by decide +kernel
theorem dL_law_278 : decode code 278 = .ok (.invokevirtual 18, 3) := by decide +kernel
theorem dL_law_281 : decode code 281 = .ok (.aload_n 2, 1) := by decide +kernel
theorem dL_law_282 : decode code 282 = .ok (.aload_n 0, 1) := by decide +kernel
theorem dL_law_283 : decode code 283 = .ok (.iload_n 3, 1) := by decide +kernel
theorem dL_law_284 : decode code 284 = .ok (.iconst 1, 1) := by decide +kernel
theorem dL_law_285 : decode code 285 = .ok (.iadd, 1) := by decide +kernel
theorem dL_law_286 : decode code 286 = .ok (.iaload, 1) := by decide +kernel
theorem dL_law_287 : decode code 287 = .ok (.aload_n 0, 1) := by decide +kernel
theorem dL_law_288 : decode code 288 = .ok (.iload_n 3, 1) := by decide +kernel
theorem dL_law_289 : decode code 289 = .ok (.iconst 2, 1) := by decide +kernel
theorem dL_law_290 : decode code 290 = .ok (.iadd, 1) := by decide +kernel
theorem dL_law_291 : decode code 291 = .ok (.iaload, 1) := by decide +kernel
theorem dL_law_292 : decode code 292 = .ok (.invokevirtual 22, 3) := by decide +kernel
theorem dL_law_295 : decode code 295 = .ok (.if_icmp .eq 1539, 3) := by decide +kernel
theorem dL_law_298 : decode code 298 = .ok (.iconst 0, 1) := by decide +kernel
theorem dL_law_299 : decode code 299 = .ok (.ireturn, 1) := by decide +kernel
theorem dL_law_300 : decode code 300 = .ok (.aload_n 1, 1) := by decide +kernel
theorem dL_law_301 : decode code 301 = .ok (.aload_n 0, 1) := by decide +kernel
theorem dL_law_302 : decode code 302 = .ok (.iload_n 3, 1) := by decide +kernel
theorem dL_law_303 : decode code 303 = .ok (.iconst 1, 1) := by decide +kernel
theorem dL_law_304 : decode code 304 = .ok (.iadd, 1) := by decide +kernel
theorem dL_law_305 : decode code 305 = .ok (.iaload, 1) := by decide +kernel
theorem dL_law_306 : decode code 306 = .ok (.aload_n 0, 1) := by decide +kernel
theorem dL_law_307 : decode code 307 = .ok (.iload_n 3, 1) := by decide +kernel
theorem dL_law_308 : decode code 308 = .ok (.iconst 2, 1) := by decide +kernel
theorem dL_law_309 : decode code 309 = .ok (.iadd, 1) := by decide +kernel
theorem dL_law_310 : decode code 310 = .ok (.iaload, 1) := by decide +kernel
theorem dL_law_311 : decode code 311 = .ok (.aload_n 0, 1) := by decide +kernel
theorem dL_law_312 : decode code 312 = .ok (.iload_n 3, 1) := by decide +kernel
theorem dL_law_313 : decode code 313 = .ok (.iconst 3, 1) := by decide +kernel
theorem dL_law_314 : decode code 314 = .ok (.iadd, 1) := by decide +kernel
theorem dL_law_315 : decode code 315 = .ok (.iaload, 1) := by decide +kernel
theorem dL_law_316 : decode code 316 = .ok (.aload_n 0, 1) := by decide +kernel
theorem dL_law_317 : decode code 317 = .ok (.iload_n 3, 1) := by decide +kernel
theorem dL_law_318 : decode code 318 = .ok (.iconst 4, 1) := by decide +kernel
theorem dL_law_319 : decode code 319 = .ok (.iadd, 1) := by decide +kernel
theorem dL_law_320 : decode code 320 = .ok (.iaload, 1) := by decide +kernel
theorem dL_law_321 : decode code 321 = .ok (.aload_n 0, 1) := by decide +kernel
theorem dL_law_322 : decode code 322 = .ok (.iload_n 3, 1) := by decide +kernel
theorem dL_law_323 : decode code 323 = .ok (.iconst 5, 1) := by decide +kernel
theorem dL_law_324 : decode code 324 = .ok (.iadd, 1) := by decide +kernel
theorem dL_law_325 : decode code 325 = .ok (.iaload, 1) := by decide +kernel
theorem dL_law_326 : decode code 326 = .ok (.invokevirtual 23, 3) := by decide +kernel
theorem dL_law_329 : decode code 329 = .ok (.aload_n 2, 1) := by decide +kernel
theorem dL_law_330 : decode code 330 = .ok (.aload_n 0, 1) := by decide +kernel
theorem dL_law_331 : decode code 331 = .ok (.iload_n 3, 1) := by decide +kernel
theorem dL_law_332 : decode code 332 = .ok (.iconst 1, 1) := by decide +kernel
theorem dL_law_333 : decode code 333 = .ok (.iadd, 1) := by decide +kernel
theorem dL_law_334 : decode code 334 = .ok (.iaload, 1) := by decide +kernel
theorem dL_law_335 : decode code 335 = .ok (.aload_n 0, 1) := by decide +kernel
theorem dL_law_336 : decode code 336 = .ok (.iload_n 3, 1) := by decide +kernel
theorem dL_law_337 : decode code 337 = .ok (.iconst 2, 1) := by decide +kernel
theorem dL_law_338 : decode code 338 = .ok (.iadd, 1) := by decide +kernel
theorem dL_law_339 : decode code 339 = .ok (.iaload, 1) := by decide +kernel
theorem dL_law_340 : decode code 340 = .ok (.aload_n 0, 1) := by decide +kernel
theorem dL_law_341 : decode code 341 = .ok (.iload_n 3, 1) := by decide +kernel
theorem dL_law_342 : decode code 342 = .ok (.iconst 3, 1) := by decide +kernel
theorem dL_law_343 : decode code 343 = .ok (.iadd, 1) := by decide +kernel
theorem dL_law_344 : decode code 344 = .ok (.iaload, 1) := by decide +kernel
theorem dL_law_345 : decode code 345 = .ok (.aload_n 0, 1) := by decide +kernel
theorem dL_law_346 : decode code 346 = .ok (.iload_n 3, 1) := by decide +kernel
theorem dL_law_347 : decode code 347 = .ok (.iconst 4, 1) := by decide +kernel
theorem dL_law_348 : decode code 348 = .ok (.iadd, 1) := by decide +kernel
theorem dL_law_349 : decode code 349 = .ok (.iaload, 1) := by decide +kernel
theorem dL_law_350 : decode code 350 = .ok (.aload_n 0, 1) := by decide +kernel
theorem dL_law_351 : decode code 351 = .ok (.iload_n 3, 1) := by decide +kernel
theorem dL_law_352 : decode code 352 = .ok (.iconst 5, 1) := by decide +kernel
theorem dL_law_353 : decode code 353 = .ok (.iadd, 1) := by decide +kernel
theorem dL_law_354 : decode code 354 = .ok (.iaload, 1) := by decide +kernel
theorem dL_law_355 : decode code 355 = .ok (.invokevirtual 27, 3) := by decide +kernel
theorem dL_law_358 : decode code 358 = .ok (.if_icmp .eq 1476, 3) := by decide +kernel
theorem dL_law_361 : decode code 361 = .ok (.iconst 0, 1) := by decide +kernel
theorem dL_law_362 : decode code 362 = .ok (.ireturn, 1) := by decide +kernel
theorem dL_law_363 : decode code 363 = .ok (.aload_n 1, 1) := by decide +kernel
theorem dL_law_364 : decode code 364 = .ok (.aload_n 0, 1) := by decide +kernel
theorem dL_law_365 : decode code 365 = .ok (.iload_n 3, 1) := by decide +kernel
theorem dL_law_366 : decode code 366 = .ok (.iconst 1, 1) := by decide +kernel
theorem dL_law_367 : decode code 367 = .ok (.iadd, 1) := by decide +kernel
theorem dL_law_368 : decode code 368 = .ok (.iaload, 1) := by decide +kernel
theorem dL_law_369 : decode code 369 = .ok (.aload_n 0, 1) := by decide +kernel
theorem dL_law_370 : decode code 370 = .ok (.iload_n 3, 1) := by decide +kernel
theorem dL_law_371 : decode code 371 = .ok (.iconst 2, 1) := by decide +kernel
theorem dL_law_372 : decode code 372 = .ok (.iadd, 1) := by decide +kernel
theorem dL_law_373 : decode code 373 = .ok (.iaload, 1) := by decide +kernel
theorem dL_law_374 : decode code 374 = .ok (.aload_n 0, 1) := by decide +kernel
theorem dL_law_375 : decode code 375 = .ok (.iload_n 3, 1) := by decide +kernel
theorem dL_law_376 : decode code 376 = .ok (.iconst 3, 1) := by decide +kernel
theorem dL_law_377 : decode code 377 = .ok (.iadd, 1) := by decide +kernel
theorem dL_law_378 : decode code 378 = .ok (.iaload, 1) := by decide +kernel
theorem dL_law_379 : decode code 379 = .ok (.aload_n 0, 1) := by decide +kernel
theorem dL_law_380 : decode code 380 = .ok (.iload_n 3, 1) := by decide +kernel
theorem dL_law_381 : decode code 381 = .ok (.iconst 4, 1) := by decide +kernel
theorem dL_law_382 : decode code 382 = .ok (.iadd, 1) := by decide +kernel
theorem dL_law_383 : decode code 383 = .ok (.iaload, 1) := by decide +kernel
theorem dL_law_384 : decode code 384 = .ok (.aload_n 0, 1) := by decide +kernel
theorem dL_law_385 : decode code 385 = .ok (.iload_n 3, 1) := by decide +kernel
theorem dL_law_386 : decode code 386 = .ok (.iconst 5, 1) := by decide +kernel
theorem dL_law_387 : decode code 387 = .ok (.iadd, 1) := by decide +kernel
theorem dL_law_388 : decode code 388 = .ok (.iaload, 1) := by decide +kernel
theorem dL_law_389 : decode code 389 = .ok (.invokevirtual 28, 3) := by decide +kernel
theorem dL_law_392 : decode code 392 = .ok (.aload_n 2, 1) := by decide +kernel
theorem dL_law_393 : decode code 393 = .ok (.aload_n 0, 1) := by decide +kernel
theorem dL_law_394 : decode code 394 = .ok (.iload_n 3, 1) := by decide +kernel
theorem dL_law_395 : decode code 395 = .ok (.iconst 1, 1) := by decide +kernel
theorem dL_law_396 : decode code 396 = .ok (.iadd, 1) := by decide +kernel
theorem dL_law_397 : decode code 397 = .ok (.iaload, 1) := by decide +kernel
theorem dL_law_398 : decode code 398 = .ok (.aload_n 0, 1) := by decide +kernel
theorem dL_law_399 : decode code 399 = .ok (.iload_n 3, 1) := by decide +kernel
theorem dL_law_400 : decode code 400 = .ok (.iconst 2, 1) := by decide +kernel
theorem dL_law_401 : decode code 401 = .ok (.iadd, 1) := by decide +kernel
theorem dL_law_402 : decode code 402 = .ok (.iaload, 1) := by decide +kernel
theorem dL_law_403 : decode code 403 = .ok (.aload_n 0, 1) := by decide +kernel
theorem dL_law_404 : decode code 404 = .ok (.iload_n 3, 1) := by decide +kernel
theorem dL_law_405 : decode code 405 = .ok (.iconst 3, 1) := by decide +kernel
theorem dL_law_406 : decode code 406 = .ok (.iadd, 1) := by decide +kernel
theorem dL_law_407 : decode code 407 = .ok (.iaload, 1) := by decide +kernel
theorem dL_law_408 : decode code 408 = .ok (.aload_n 0, 1) := by decide +kernel
theorem dL_law_409 : decode code 409 = .ok (.iload_n 3, 1) := by decide +kernel
theorem dL_law_410 : decode code 410 = .ok (.iconst 4, 1) := by decide +kernel
theorem dL_law_411 : decode code 411 = .ok (.iadd, 1) := by decide +kernel
theorem dL_law_412 : decode code 412 = .ok (.iaload, 1) := by decide +kernel
theorem dL_law_413 : decode code 413 = .ok (.aload_n 0, 1) := by decide +kernel
theorem dL_law_414 : decode code 414 = .ok (.iload_n 3, 1) := by decide +kernel
theorem dL_law_415 : decode code 415 = .ok (.iconst 5, 1) := by decide +kernel
theorem dL_law_416 : decode code 416 = .ok (.iadd, 1) := by decide +kernel
theorem dL_law_417 : decode code 417 = .ok (.iaload, 1) := by decide +kernel
theorem dL_law_418 : decode code 418 = .ok (.invokevirtual 31, 3) := by decide +kernel
theorem dL_law_421 : decode code 421 = .ok (.if_icmp .eq 1413, 3) := by decide +kernel
theorem dL_law_424 : decode code 424 = .ok (.iconst 0, 1) := by decide +kernel
theorem dL_law_425 : decode code 425 = .ok (.ireturn, 1) := by decide +kernel
theorem dL_law_426 : decode code 426 = .ok (.aload_n 1, 1) := by decide +kernel
theorem dL_law_427 : decode code 427 = .ok (.aload_n 0, 1) := by decide +kernel
theorem dL_law_428 : decode code 428 = .ok (.iload_n 3, 1) := by decide +kernel
theorem dL_law_429 : decode code 429 = .ok (.iconst 1, 1) := by decide +kernel
theorem dL_law_430 : decode code 430 = .ok (.iadd, 1) := by decide +kernel
theorem dL_law_431 : decode code 431 = .ok (.iaload, 1) := by decide +kernel
theorem dL_law_432 : decode code 432 = .ok (.aload_n 0, 1) := by decide +kernel
theorem dL_law_433 : decode code 433 = .ok (.iload_n 3, 1) := by decide +kernel
theorem dL_law_434 : decode code 434 = .ok (.iconst 2, 1) := by decide +kernel
theorem dL_law_435 : decode code 435 = .ok (.iadd, 1) := by decide +kernel
theorem dL_law_436 : decode code 436 = .ok (.iaload, 1) := by decide +kernel
theorem dL_law_437 : decode code 437 = .ok (.invokevirtual 32, 3) := by decide +kernel
theorem dL_law_440 : decode code 440 = .ok (.aload_n 2, 1) := by decide +kernel
theorem dL_law_441 : decode code 441 = .ok (.aload_n 0, 1) := by decide +kernel
theorem dL_law_442 : decode code 442 = .ok (.iload_n 3, 1) := by decide +kernel
theorem dL_law_443 : decode code 443 = .ok (.iconst 1, 1) := by decide +kernel
theorem dL_law_444 : decode code 444 = .ok (.iadd, 1) := by decide +kernel
theorem dL_law_445 : decode code 445 = .ok (.iaload, 1) := by decide +kernel
theorem dL_law_446 : decode code 446 = .ok (.aload_n 0, 1) := by decide +kernel
theorem dL_law_447 : decode code 447 = .ok (.iload_n 3, 1) := by decide +kernel
theorem dL_law_448 : decode code 448 = .ok (.iconst 2, 1) := by decide +kernel
theorem dL_law_449 : decode code 449 = .ok (.iadd, 1) := by decide +kernel
theorem dL_law_450 : decode code 450 = .ok (.iaload, 1) := by decide +kernel
theorem dL_law_451 : decode code 451 = .ok (.invokevirtual 35, 3) := by decide +kernel
theorem dL_law_454 : decode code 454 = .ok (.if_icmp .eq 1380, 3) := by decide +kernel
theorem dL_law_457 : decode code 457 = .ok (.iconst 0, 1) := by decide +kernel
theorem dL_law_458 : decode code 458 = .ok (.ireturn, 1) := by decide +kernel
theorem dL_law_459 : decode code 459 = .ok (.aload_n 1, 1) := by decide +kernel
theorem dL_law_460 : decode code 460 = .ok (.aload_n 0, 1) := by decide +kernel
theorem dL_law_461 : decode code 461 = .ok (.iload_n 3, 1) := by decide +kernel
theorem dL_law_462 : decode code 462 = .ok (.iconst 1, 1) := by decide +kernel
theorem dL_law_463 : decode code 463 = .ok (.iadd, 1) := by decide +kernel
theorem dL_law_464 : decode code 464 = .ok (.iaload, 1) := by decide +kernel
theorem dL_law_465 : decode code 465 = .ok (.aload_n 0, 1) := by decide +kernel
theorem dL_law_466 : decode code 466 = .ok (.iload_n 3, 1) := by decide +kernel
theorem dL_law_467 : decode code 467 = .ok (.iconst 2, 1) := by decide +kernel
theorem dL_law_468 : decode code 468 = .ok (.iadd, 1) := by decide +kernel
theorem dL_law_469 : decode code 469 = .ok (.iaload, 1) := by decide +kernel
theorem dL_law_470 : decode code 470 = .ok (.aload_n 0, 1) := by decide +kernel
theorem dL_law_471 : decode code 471 = .ok (.iload_n 3, 1) := by decide +kernel
theorem dL_law_472 : decode code 472 = .ok (.iconst 3, 1) := by decide +kernel
theorem dL_law_473 : decode code 473 = .ok (.iadd, 1) := by decide +kernel
theorem dL_law_474 : decode code 474 = .ok (.iaload, 1) := by decide +kernel
theorem dL_law_475 : decode code 475 = .ok (.invokevirtual 36, 3) := by decide +kernel
theorem dL_law_478 : decode code 478 = .ok (.aload_n 2, 1) := by decide +kernel
theorem dL_law_479 : decode code 479 = .ok (.aload_n 0, 1) := by decide +kernel
theorem dL_law_480 : decode code 480 = .ok (.iload_n 3, 1) := by decide +kernel
theorem dL_law_481 : decode code 481 = .ok (.iconst 1, 1) := by decide +kernel
theorem dL_law_482 : decode code 482 = .ok (.iadd, 1) := by decide +kernel
theorem dL_law_483 : decode code 483 = .ok (.iaload, 1) := by decide +kernel
theorem dL_law_484 : decode code 484 = .ok (.aload_n 0, 1) := by decide +kernel
theorem dL_law_485 : decode code 485 = .ok (.iload_n 3, 1) := by decide +kernel
theorem dL_law_486 : decode code 486 = .ok (.iconst 2, 1) := by decide +kernel
theorem dL_law_487 : decode code 487 = .ok (.iadd, 1) := by decide +kernel
theorem dL_law_488 : decode code 488 = .ok (.iaload, 1) := by decide +kernel
theorem dL_law_489 : decode code 489 = .ok (.aload_n 0, 1) := by decide +kernel
theorem dL_law_490 : decode code 490 = .ok (.iload_n 3, 1) := by decide +kernel
theorem dL_law_491 : decode code 491 = .ok (.iconst 3, 1) := by decide +kernel
theorem dL_law_492 : decode code 492 = .ok (.iadd, 1) := by decide +kernel
theorem dL_law_493 : decode code 493 = .ok (.iaload, 1) := by decide +kernel
theorem dL_law_494 : decode code 494 = .ok (.invokevirtual 40, 3) := by decide +kernel
theorem dL_law_497 : decode code 497 = .ok (.if_icmp .eq 1337, 3) := by decide +kernel
theorem dL_law_500 : decode code 500 = .ok (.iconst 0, 1) := by decide +kernel
theorem dL_law_501 : decode code 501 = .ok (.ireturn, 1) := by decide +kernel
theorem dL_law_502 : decode code 502 = .ok (.aload_n 1, 1) := by decide +kernel
theorem dL_law_503 : decode code 503 = .ok (.aload_n 0, 1) := by decide +kernel
theorem dL_law_504 : decode code 504 = .ok (.iload_n 3, 1) := by decide +kernel
theorem dL_law_505 : decode code 505 = .ok (.iconst 1, 1) := by decide +kernel
theorem dL_law_506 : decode code 506 = .ok (.iadd, 1) := by decide +kernel
theorem dL_law_507 : decode code 507 = .ok (.iaload, 1) := by decide +kernel
theorem dL_law_508 : decode code 508 = .ok (.aload_n 0, 1) := by decide +kernel
theorem dL_law_509 : decode code 509 = .ok (.iload_n 3, 1) := by decide +kernel
theorem dL_law_510 : decode code 510 = .ok (.iconst 2, 1) := by decide +kernel
theorem dL_law_511 : decode code 511 = .ok (.iadd, 1) := by decide +kernel
theorem dL_law_512 : decode code 512 = .ok (.iaload, 1) := by decide +kernel
theorem dL_law_513 : decode code 513 = .ok (.invokevirtual 41, 3) := by decide +kernel
theorem dL_law_516 : decode code 516 = .ok (.aload_n 2, 1) := by decide +kernel
theorem dL_law_517 : decode code 517 = .ok (.aload_n 0, 1) := by decide +kernel
theorem dL_law_518 : decode code 518 = .ok (.iload_n 3, 1) := by decide +kernel
theorem dL_law_519 : decode code 519 = .ok (.iconst 1, 1) := by decide +kernel
theorem dL_law_520 : decode code 520 = .ok (.iadd, 1) := by decide +kernel
theorem dL_law_521 : decode code 521 = .ok (.iaload, 1) := by decide +kernel
theorem dL_law_522 : decode code 522 = .ok (.aload_n 0, 1) := by decide +kernel
theorem dL_law_523 : decode code 523 = .ok (.iload_n 3, 1) := by decide +kernel
theorem dL_law_524 : decode code 524 = .ok (.iconst 2, 1) := by decide +kernel
theorem dL_law_525 : decode code 525 = .ok (.iadd, 1) := by decide +kernel
theorem dL_law_526 : decode code 526 = .ok (.iaload, 1) := by decide +kernel
theorem dL_law_527 : decode code 527 = .ok (.invokevirtual 44, 3) := by decide +kernel
theorem dL_law_530 : decode code 530 = .ok (.if_icmp .eq 1304, 3) := by decide +kernel
theorem dL_law_533 : decode code 533 = .ok (.iconst 0, 1) := by decide +kernel
theorem dL_law_534 : decode code 534 = .ok (.ireturn, 1) := by decide +kernel
theorem dL_law_535 : decode code 535 = .ok (.aload_n 1, 1) := by decide +kernel
theorem dL_law_536 : decode code 536 = .ok (.aload_n 0, 1) := by decide +kernel
theorem dL_law_537 : decode code 537 = .ok (.iload_n 3, 1) := by decide +kernel
theorem dL_law_538 : decode code 538 = .ok (.iconst 1, 1) := by decide +kernel
theorem dL_law_539 : decode code 539 = .ok (.iadd, 1) := by decide +kernel
theorem dL_law_540 : decode code 540 = .ok (.iaload, 1) := by decide +kernel
theorem dL_law_541 : decode code 541 = .ok (.aload_n 0, 1) := by decide +kernel
theorem dL_law_542 : decode code 542 = .ok (.iload_n 3, 1) := by decide +kernel
theorem dL_law_543 : decode code 543 = .ok (.iconst 2, 1) := by decide +kernel
theorem dL_law_544 : decode code 544 = .ok (.iadd, 1) := by decide +kernel
theorem dL_law_545 : decode code 545 = .ok (.iaload, 1) := by decide +kernel
theorem dL_law_546 : decode code 546 = .ok (.invokevirtual 45, 3) := by decide +kernel
theorem dL_law_549 : decode code 549 = .ok (.aload_n 2, 1) := by decide +kernel
theorem dL_law_550 : decode code 550 = .ok (.aload_n 0, 1) := by decide +kernel
theorem dL_law_551 : decode code 551 = .ok (.iload_n 3, 1) := by decide +kernel
theorem dL_law_552 : decode code 552 = .ok (.iconst 1, 1) := by decide +kernel
theorem dL_law_553 : decode code 553 = .ok (.iadd, 1) := by decide +kernel
theorem dL_law_554 : decode code 554 = .ok (.iaload, 1) := by decide +kernel
theorem dL_law_555 : decode code 555 = .ok (.aload_n 0, 1) := by decide +kernel
theorem dL_law_556 : decode code 556 = .ok (.iload_n 3, 1) := by decide +kernel
theorem dL_law_557 : decode code 557 = .ok (.iconst 2, 1) := by decide +kernel
theorem dL_law_558 : decode code 558 = .ok (.iadd, 1) := by decide +kernel
theorem dL_law_559 : decode code 559 = .ok (.iaload, 1) := by decide +kernel
theorem dL_law_560 : decode code 560 = .ok (.invokevirtual 48, 3) := by decide +kernel
theorem dL_law_563 : decode code 563 = .ok (.if_icmp .eq 1271, 3) := by decide +kernel
theorem dL_law_566 : decode code 566 = .ok (.iconst 0, 1) := by decide +kernel
theorem dL_law_567 : decode code 567 = .ok (.ireturn, 1) := by decide +kernel
theorem dL_law_568 : decode code 568 = .ok (.aload_n 1, 1) := by decide +kernel
theorem dL_law_569 : decode code 569 = .ok (.aload_n 0, 1) := by decide +kernel
theorem dL_law_570 : decode code 570 = .ok (.iload_n 3, 1) := by decide +kernel
theorem dL_law_571 : decode code 571 = .ok (.iconst 1, 1) := by decide +kernel
theorem dL_law_572 : decode code 572 = .ok (.iadd, 1) := by decide +kernel
theorem dL_law_573 : decode code 573 = .ok (.iaload, 1) := by decide +kernel
theorem dL_law_574 : decode code 574 = .ok (.aload_n 0, 1) := by decide +kernel
theorem dL_law_575 : decode code 575 = .ok (.iload_n 3, 1) := by decide +kernel
theorem dL_law_576 : decode code 576 = .ok (.iconst 2, 1) := by decide +kernel
theorem dL_law_577 : decode code 577 = .ok (.iadd, 1) := by decide +kernel
theorem dL_law_578 : decode code 578 = .ok (.iaload, 1) := by decide +kernel
theorem dL_law_579 : decode code 579 = .ok (.invokevirtual 49, 3) := by decide +kernel
theorem dL_law_582 : decode code 582 = .ok (.aload_n 2, 1) := by decide +kernel
theorem dL_law_583 : decode code 583 = .ok (.aload_n 0, 1) := by decide +kernel
theorem dL_law_584 : decode code 584 = .ok (.iload_n 3, 1) := by decide +kernel
theorem dL_law_585 : decode code 585 = .ok (.iconst 1, 1) := by decide +kernel
theorem dL_law_586 : decode code 586 = .ok (.iadd, 1) := by decide +kernel
theorem dL_law_587 : decode code 587 = .ok (.iaload, 1) := by decide +kernel
theorem dL_law_588 : decode code 588 = .ok (.aload_n 0, 1) := by decide +kernel
theorem dL_law_589 : decode code 589 = .ok (.iload_n 3, 1) := by decide +kernel
theorem dL_law_590 : decode code 590 = .ok (.iconst 2, 1) := by decide +kernel
theorem dL_law_591 : decode code 591 = .ok (.iadd, 1) := by decide +kernel
theorem dL_law_592 : decode code 592 = .ok (.iaload, 1) := by decide +kernel
theorem dL_law_593 : decode code 593 = .ok (.invokevirtual 52, 3) := by decide +kernel
theorem dL_law_596 : decode code 596 = .ok (.if_icmp .eq 1238, 3) := by decide +kernel
theorem dL_law_599 : decode code 599 = .ok (.iconst 0, 1) := by decide +kernel
theorem dL_law_600 : decode code 600 = .ok (.ireturn, 1) := by decide +kernel
theorem dL_law_601 : decode code 601 = .ok (.aload_n 1, 1) := by decide +kernel
theorem dL_law_602 : decode code 602 = .ok (.aload_n 0, 1) := by decide +kernel
theorem dL_law_603 : decode code 603 = .ok (.iload_n 3, 1) := by decide +kernel
theorem dL_law_604 : decode code 604 = .ok (.iconst 1, 1) := by decide +kernel
theorem dL_law_605 : decode code 605 = .ok (.iadd, 1) := by decide +kernel
theorem dL_law_606 : decode code 606 = .ok (.iaload, 1) := by decide +kernel
theorem dL_law_607 : decode code 607 = .ok (.aload_n 0, 1) := by decide +kernel
theorem dL_law_608 : decode code 608 = .ok (.iload_n 3, 1) := by decide +kernel
theorem dL_law_609 : decode code 609 = .ok (.iconst 2, 1) := by decide +kernel
theorem dL_law_610 : decode code 610 = .ok (.iadd, 1) := by decide +kernel
theorem dL_law_611 : decode code 611 = .ok (.iaload, 1) := by decide +kernel
theorem dL_law_612 : decode code 612 = .ok (.invokevirtual 53, 3) := by decide +kernel
theorem dL_law_615 : decode code 615 = .ok (.aload_n 2, 1) := by decide +kernel
theorem dL_law_616 : decode code 616 = .ok (.aload_n 0, 1) := by decide +kernel
theorem dL_law_617 : decode code 617 = .ok (.iload_n 3, 1) := by decide +kernel
theorem dL_law_618 : decode code 618 = .ok (.iconst 1, 1) := by decide +kernel
theorem dL_law_619 : decode code 619 = .ok (.iadd, 1) := by decide +kernel
theorem dL_law_620 : decode code 620 = .ok (.iaload, 1) := by decide +kernel
theorem dL_law_621 : decode code 621 = .ok (.aload_n 0, 1) := by decide +kernel
theorem dL_law_622 : decode code 622 = .ok (.iload_n 3, 1) := by decide +kernel
theorem dL_law_623 : decode code 623 = .ok (.iconst 2, 1) := by decide +kernel
theorem dL_law_624 : decode code 624 = .ok (.iadd, 1) := by decide +kernel
theorem dL_law_625 : decode code 625 = .ok (.iaload, 1) := by decide +kernel
theorem dL_law_626 : decode code 626 = .ok (.invokevirtual 56, 3) := by decide +kernel
theorem dL_law_629 : decode code 629 = .ok (.if_icmp .eq 1205, 3) := by decide +kernel
theorem dL_law_632 : decode code 632 = .ok (.iconst 0, 1) := by decide +kernel
theorem dL_law_633 : decode code 633 = .ok (.ireturn, 1) := by decide +kernel
theorem dL_law_634 : decode code 634 = .ok (.aload_n 1, 1) := by decide +kernel
theorem dL_law_635 : decode code 635 = .ok (.aload_n 0, 1) := by decide +kernel
theorem dL_law_636 : decode code 636 = .ok (.iload_n 3, 1) := by decide +kernel
theorem dL_law_637 : decode code 637 = .ok (.iconst 1, 1) := by decide +kernel
theorem dL_law_638 : decode code 638 = .ok (.iadd, 1) := by decide +kernel
theorem dL_law_639 : decode code 639 = .ok (.iaload, 1) := by decide +kernel
theorem dL_law_640 : decode code 640 = .ok (.aload_n 0, 1) := by decide +kernel
theorem dL_law_641 : decode code 641 = .ok (.iload_n 3, 1) := by decide +kernel
theorem dL_law_642 : decode code 642 = .ok (.iconst 2, 1) := by decide +kernel
theorem dL_law_643 : decode code 643 = .ok (.iadd, 1) := by decide +kernel
theorem dL_law_644 : decode code 644 = .ok (.iaload, 1) := by decide +kernel
theorem dL_law_645 : decode code 645 = .ok (.aload_n 0, 1) := by decide +kernel
theorem dL_law_646 : decode code 646 = .ok (.iload_n 3, 1) := by decide +kernel
theorem dL_law_647 : decode code 647 = .ok (.iconst 3, 1) := by decide +kernel
theorem dL_law_648 : decode code 648 = .ok (.iadd, 1) := by decide +kernel
theorem dL_law_649 : decode code 649 = .ok (.iaload, 1) := by decide +kernel
theorem dL_law_650 : decode code 650 = .ok (.invokevirtual 57, 3) := by decide +kernel
theorem dL_law_653 : decode code 653 = .ok (.aload_n 2, 1) := by decide +kernel
theorem dL_law_654 : decode code 654 = .ok (.aload_n 0, 1) := by decide +kernel
theorem dL_law_655 : decode code 655 = .ok (.iload_n 3, 1) := by decide +kernel
theorem dL_law_656 : decode code 656 = .ok (.iconst 1, 1) := by decide +kernel
theorem dL_law_657 : decode code 657 = .ok (.iadd, 1) := by decide +kernel
theorem dL_law_658 : decode code 658 = .ok (.iaload, 1) := by decide +kernel
theorem dL_law_659 : decode code 659 = .ok (.aload_n 0, 1) := by decide +kernel
theorem dL_law_660 : decode code 660 = .ok (.iload_n 3, 1) := by decide +kernel
theorem dL_law_661 : decode code 661 = .ok (.iconst 2, 1) := by decide +kernel
theorem dL_law_662 : decode code 662 = .ok (.iadd, 1) := by decide +kernel
theorem dL_law_663 : decode code 663 = .ok (.iaload, 1) := by decide +kernel
theorem dL_law_664 : decode code 664 = .ok (.aload_n 0, 1) := by decide +kernel
theorem dL_law_665 : decode code 665 = .ok (.iload_n 3, 1) := by decide +kernel
theorem dL_law_666 : decode code 666 = .ok (.iconst 3, 1) := by decide +kernel
theorem dL_law_667 : decode code 667 = .ok (.iadd, 1) := by decide +kernel
theorem dL_law_668 : decode code 668 = .ok (.iaload, 1) := by decide +kernel
theorem dL_law_669 : decode code 669 = .ok (.invokevirtual 60, 3) := by decide +kernel
theorem dL_law_672 : decode code 672 = .ok (.if_icmp .eq 1162, 3) := by decide +kernel
theorem dL_law_675 : decode code 675 = .ok (.iconst 0, 1) := by decide +kernel
theorem dL_law_676 : decode code 676 = .ok (.ireturn, 1) := by decide +kernel
theorem dL_law_677 : decode code 677 = .ok (.aload_n 1, 1) := by decide +kernel
theorem dL_law_678 : decode code 678 = .ok (.aload_n 0, 1) := by decide +kernel
theorem dL_law_679 : decode code 679 = .ok (.iload_n 3, 1) := by decide +kernel
theorem dL_law_680 : decode code 680 = .ok (.iconst 1, 1) := by decide +kernel
theorem dL_law_681 : decode code 681 = .ok (.iadd, 1) := by decide +kernel
theorem dL_law_682 : decode code 682 = .ok (.iaload, 1) := by decide +kernel
theorem dL_law_683 : decode code 683 = .ok (.aload_n 0, 1) := by decide +kernel
theorem dL_law_684 : decode code 684 = .ok (.iload_n 3, 1) := by decide +kernel
theorem dL_law_685 : decode code 685 = .ok (.iconst 2, 1) := by decide +kernel
theorem dL_law_686 : decode code 686 = .ok (.iadd, 1) := by decide +kernel
theorem dL_law_687 : decode code 687 = .ok (.iaload, 1) := by decide +kernel
theorem dL_law_688 : decode code 688 = .ok (.invokevirtual 61, 3) := by decide +kernel
theorem dL_law_691 : decode code 691 = .ok (.aload_n 2, 1) := by decide +kernel
theorem dL_law_692 : decode code 692 = .ok (.aload_n 0, 1) := by decide +kernel
theorem dL_law_693 : decode code 693 = .ok (.iload_n 3, 1) := by decide +kernel
theorem dL_law_694 : decode code 694 = .ok (.iconst 1, 1) := by decide +kernel
theorem dL_law_695 : decode code 695 = .ok (.iadd, 1) := by decide +kernel
theorem dL_law_696 : decode code 696 = .ok (.iaload, 1) := by decide +kernel
theorem dL_law_697 : decode code 697 = .ok (.aload_n 0, 1) := by decide +kernel
theorem dL_law_698 : decode code 698 = .ok (.iload_n 3, 1) := by decide +kernel
theorem dL_law_699 : decode code 699 = .ok (.iconst 2, 1) := by decide +kernel
theorem dL_law_700 : decode code 700 = .ok (.iadd, 1) := by decide +kernel
theorem dL_law_701 : decode code 701 = .ok (.iaload, 1) := by decide +kernel
theorem dL_law_702 : decode code 702 = .ok (.invokevirtual 64, 3) := by decide +kernel
theorem dL_law_705 : decode code 705 = .ok (.if_icmp .eq 1129, 3) := by decide +kernel
theorem dL_law_708 : decode code 708 = .ok (.iconst 0, 1) := by decide +kernel
theorem dL_law_709 : decode code 709 = .ok (.ireturn, 1) := by decide +kernel
theorem dL_law_710 : decode code 710 = .ok (.aload_n 1, 1) := by decide +kernel
theorem dL_law_711 : decode code 711 = .ok (.aload_n 0, 1) := by decide +kernel
theorem dL_law_712 : decode code 712 = .ok (.iload_n 3, 1) := by decide +kernel
theorem dL_law_713 : decode code 713 = .ok (.iconst 1, 1) := by decide +kernel
theorem dL_law_714 : decode code 714 = .ok (.iadd, 1) := by decide +kernel
theorem dL_law_715 : decode code 715 = .ok (.iaload, 1) := by decide +kernel
theorem dL_law_716 : decode code 716 = .ok (.aload_n 0, 1) := by decide +kernel
theorem dL_law_717 : decode code 717 = .ok (.iload_n 3, 1) := by decide +kernel
theorem dL_law_718 : decode code 718 = .ok (.iconst 2, 1) := by decide +kernel
theorem dL_law_719 : decode code 719 = .ok (.iadd, 1) := by decide +kernel
theorem dL_law_720 : decode code 720 = .ok (.iaload, 1) := by decide +kernel
theorem dL_law_721 : decode code 721 = .ok (.aload_n 0, 1) := by decide +kernel
theorem dL_law_722 : decode code 722 = .ok (.iload_n 3, 1) := by decide +kernel
theorem dL_law_723 : decode code 723 = .ok (.iconst 3, 1) := by decide +kernel
theorem dL_law_724 : decode code 724 = .ok (.iadd, 1) := by decide +kernel
theorem dL_law_725 : decode code 725 = .ok (.iaload, 1) := by decide +kernel
theorem dL_law_726 : decode code 726 = .ok (.invokevirtual 65, 3) := by decide +kernel
theorem dL_law_729 : decode code 729 = .ok (.aload_n 2, 1) := by decide +kernel
theorem dL_law_730 : decode code 730 = .ok (.aload_n 0, 1) := by decide +kernel
theorem dL_law_731 : decode code 731 = .ok (.iload_n 3, 1) := by decide +kernel
theorem dL_law_732 : decode code 732 = .ok (.iconst 1, 1) := by decide +kernel
theorem dL_law_733 : decode code 733 = .ok (.iadd, 1) := by decide +kernel
theorem dL_law_734 : decode code 734 = .ok (.iaload, 1) := by decide +kernel
theorem dL_law_735 : decode code 735 = .ok (.aload_n 0, 1) := by decide +kernel
theorem dL_law_736 : decode code 736 = .ok (.iload_n 3, 1) := by decide +kernel
theorem dL_law_737 : decode code 737 = .ok (.iconst 2, 1) := by decide +kernel
theorem dL_law_738 : decode code 738 = .ok (.iadd, 1) := by decide +kernel
theorem dL_law_739 : decode code 739 = .ok (.iaload, 1) := by decide +kernel
theorem dL_law_740 : decode code 740 = .ok (.aload_n 0, 1) := by decide +kernel
theorem dL_law_741 : decode code 741 = .ok (.iload_n 3, 1) := by decide +kernel
theorem dL_law_742 : decode code 742 = .ok (.iconst 3, 1) := by decide +kernel
theorem dL_law_743 : decode code 743 = .ok (.iadd, 1) := by decide +kernel
theorem dL_law_744 : decode code 744 = .ok (.iaload, 1) := by decide +kernel
theorem dL_law_745 : decode code 745 = .ok (.invokevirtual 69, 3) := by decide +kernel
theorem dL_law_748 : decode code 748 = .ok (.lcmp, 1) := by decide +kernel
theorem dL_law_749 : decode code 749 = .ok (.ifCond .eq 1085, 3) := by decide +kernel
theorem dL_law_752 : decode code 752 = .ok (.iconst 0, 1) := by decide +kernel
theorem dL_law_753 : decode code 753 = .ok (.ireturn, 1) := by decide +kernel
theorem dL_law_754 : decode code 754 = .ok (.aload_n 1, 1) := by decide +kernel
theorem dL_law_755 : decode code 755 = .ok (.aload_n 0, 1) := by decide +kernel
theorem dL_law_756 : decode code 756 = .ok (.iload_n 3, 1) := by decide +kernel
theorem dL_law_757 : decode code 757 = .ok (.iconst 1, 1) := by decide +kernel
theorem dL_law_758 : decode code 758 = .ok (.iadd, 1) := by decide +kernel
theorem dL_law_759 : decode code 759 = .ok (.iaload, 1) := by decide +kernel
theorem dL_law_760 : decode code 760 = .ok (.aload_n 0, 1) := by decide +kernel
theorem dL_law_761 : decode code 761 = .ok (.iload_n 3, 1) := by decide +kernel
theorem dL_law_762 : decode code 762 = .ok (.iconst 2, 1) := by decide +kernel
theorem dL_law_763 : decode code 763 = .ok (.iadd, 1) := by decide +kernel
theorem dL_law_764 : decode code 764 = .ok (.iaload, 1) := by decide +kernel
theorem dL_law_765 : decode code 765 = .ok (.invokevirtual 70, 3) := by decide +kernel
theorem dL_law_768 : decode code 768 = .ok (.aload_n 2, 1) := by decide +kernel
theorem dL_law_769 : decode code 769 = .ok (.aload_n 0, 1) := by decide +kernel
theorem dL_law_770 : decode code 770 = .ok (.iload_n 3, 1) := by decide +kernel
theorem dL_law_771 : decode code 771 = .ok (.iconst 1, 1) := by decide +kernel
theorem dL_law_772 : decode code 772 = .ok (.iadd, 1) := by decide +kernel
theorem dL_law_773 : decode code 773 = .ok (.iaload, 1) := by decide +kernel
theorem dL_law_774 : decode code 774 = .ok (.aload_n 0, 1) := by decide +kernel
theorem dL_law_775 : decode code 775 = .ok (.iload_n 3, 1) := by decide +kernel
theorem dL_law_776 : decode code 776 = .ok (.iconst 2, 1) := by decide +kernel
theorem dL_law_777 : decode code 777 = .ok (.iadd, 1) := by decide +kernel
theorem dL_law_778 : decode code 778 = .ok (.iaload, 1) := by decide +kernel
theorem dL_law_779 : decode code 779 = .ok (.invokevirtual 73, 3) := by decide +kernel
theorem dL_law_782 : decode code 782 = .ok (.if_icmp .eq 1052, 3) := by decide +kernel
theorem dL_law_785 : decode code 785 = .ok (.iconst 0, 1) := by decide +kernel
theorem dL_law_786 : decode code 786 = .ok (.ireturn, 1) := by decide +kernel
theorem dL_law_787 : decode code 787 = .ok (.aload_n 1, 1) := by decide +kernel
theorem dL_law_788 : decode code 788 = .ok (.aload_n 0, 1) := by decide +kernel
theorem dL_law_789 : decode code 789 = .ok (.iload_n 3, 1) := by decide +kernel
theorem dL_law_790 : decode code 790 = .ok (.iconst 1, 1) := by decide +kernel
theorem dL_law_791 : decode code 791 = .ok (.iadd, 1) := by decide +kernel
theorem dL_law_792 : decode code 792 = .ok (.iaload, 1) := by decide +kernel
theorem dL_law_793 : decode code 793 = .ok (.invokevirtual 74, 3) := by decide +kernel
theorem dL_law_796 : decode code 796 = .ok (.aload_n 2, 1) := by decide +kernel
theorem dL_law_797 : decode code 797 = .ok (.aload_n 0, 1) := by decide +kernel
theorem dL_law_798 : decode code 798 = .ok (.iload_n 3, 1) := by decide +kernel
theorem dL_law_799 : decode code 799 = .ok (.iconst 1, 1) := by decide +kernel
theorem dL_law_800 : decode code 800 = .ok (.iadd, 1) := by decide +kernel
theorem dL_law_801 : decode code 801 = .ok (.iaload, 1) := by decide +kernel
theorem dL_law_802 : decode code 802 = .ok (.invokevirtual 77, 3) := by decide +kernel
theorem dL_law_805 : decode code 805 = .ok (.if_icmp .eq 1029, 3) := by decide +kernel
theorem dL_law_808 : decode code 808 = .ok (.iconst 0, 1) := by decide +kernel
theorem dL_law_809 : decode code 809 = .ok (.ireturn, 1) := by decide +kernel
theorem dL_law_810 : decode code 810 = .ok (.aload_n 1, 1) := by decide +kernel
theorem dL_law_811 : decode code 811 = .ok (.invokevirtual 78, 3) := by decide +kernel
theorem dL_law_814 : decode code 814 = .ok (.aload_n 2, 1) := by decide +kernel
theorem dL_law_815 : decode code 815 = .ok (.invokevirtual 82, 3) := by decide +kernel
theorem dL_law_818 : decode code 818 = .ok (.if_icmp .eq 1016, 3) := by decide +kernel
theorem dL_law_821 : decode code 821 = .ok (.iconst 0, 1) := by decide +kernel
theorem dL_law_822 : decode code 822 = .ok (.ireturn, 1) := by decide +kernel
theorem dL_law_823 : decode code 823 = .ok (.aload_n 1, 1) := by decide +kernel
theorem dL_law_824 : decode code 824 = .ok (.invokevirtual 83, 3) := by decide +kernel
theorem dL_law_827 : decode code 827 = .ok (.aload_n 2, 1) := by decide +kernel
theorem dL_law_828 : decode code 828 = .ok (.invokevirtual 86, 3) := by decide +kernel
theorem dL_law_831 : decode code 831 = .ok (.if_icmp .eq 1003, 3) := by decide +kernel
theorem dL_law_834 : decode code 834 = .ok (.iconst 0, 1) := by decide +kernel
theorem dL_law_835 : decode code 835 = .ok (.ireturn, 1) := by decide +kernel
theorem dL_law_836 : decode code 836 = .ok (.aload_n 1, 1) := by decide +kernel
theorem dL_law_837 : decode code 837 = .ok (.aload_n 0, 1) := by decide +kernel
theorem dL_law_838 : decode code 838 = .ok (.iload_n 3, 1) := by decide +kernel
theorem dL_law_839 : decode code 839 = .ok (.iconst 1, 1) := by decide +kernel
theorem dL_law_840 : decode code 840 = .ok (.iadd, 1) := by decide +kernel
theorem dL_law_841 : decode code 841 = .ok (.iaload, 1) := by decide +kernel
theorem dL_law_842 : decode code 842 = .ok (.aload_n 0, 1) := by decide +kernel
theorem dL_law_843 : decode code 843 = .ok (.iload_n 3, 1) := by decide +kernel
theorem dL_law_844 : decode code 844 = .ok (.iconst 2, 1) := by decide +kernel
theorem dL_law_845 : decode code 845 = .ok (.iadd, 1) := by decide +kernel
theorem dL_law_846 : decode code 846 = .ok (.iaload, 1) := by decide +kernel
theorem dL_law_847 : decode code 847 = .ok (.invokevirtual 87, 3) := by decide +kernel
theorem dL_law_850 : decode code 850 = .ok (.aload_n 2, 1) := by decide +kernel
theorem dL_law_851 : decode code 851 = .ok (.aload_n 0, 1) := by decide +kernel
theorem dL_law_852 : decode code 852 = .ok (.iload_n 3, 1) := by decide +kernel
theorem dL_law_853 : decode code 853 = .ok (.iconst 1, 1) := by decide +kernel
theorem dL_law_854 : decode code 854 = .ok (.iadd, 1) := by decide +kernel
theorem dL_law_855 : decode code 855 = .ok (.iaload, 1) := by decide +kernel
theorem dL_law_856 : decode code 856 = .ok (.aload_n 0, 1) := by decide +kernel
theorem dL_law_857 : decode code 857 = .ok (.iload_n 3, 1) := by decide +kernel
theorem dL_law_858 : decode code 858 = .ok (.iconst 2, 1) := by decide +kernel
theorem dL_law_859 : decode code 859 = .ok (.iadd, 1) := by decide +kernel
theorem dL_law_860 : decode code 860 = .ok (.iaload, 1) := by decide +kernel
theorem dL_law_861 : decode code 861 = .ok (.invokevirtual 90, 3) := by decide +kernel
theorem dL_law_864 : decode code 864 = .ok (.if_icmp .eq 970, 3) := by decide +kernel
theorem dL_law_867 : decode code 867 = .ok (.iconst 0, 1) := by decide +kernel
theorem dL_law_868 : decode code 868 = .ok (.ireturn, 1) := by decide +kernel
theorem dL_law_869 : decode code 869 = .ok (.aload_n 1, 1) := by decide +kernel
theorem dL_law_870 : decode code 870 = .ok (.aload_n 0, 1) := by decide +kernel
theorem dL_law_871 : decode code 871 = .ok (.iload_n 3, 1) := by decide +kernel
theorem dL_law_872 : decode code 872 = .ok (.iconst 1, 1) := by decide +kernel
theorem dL_law_873 : decode code 873 = .ok (.iadd, 1) := by decide +kernel
theorem dL_law_874 : decode code 874 = .ok (.iaload, 1) := by decide +kernel
theorem dL_law_875 : decode code 875 = .ok (.aload_n 0, 1) := by decide +kernel
theorem dL_law_876 : decode code 876 = .ok (.iload_n 3, 1) := by decide +kernel
theorem dL_law_877 : decode code 877 = .ok (.iconst 2, 1) := by decide +kernel
theorem dL_law_878 : decode code 878 = .ok (.iadd, 1) := by decide +kernel
theorem dL_law_879 : decode code 879 = .ok (.iaload, 1) := by decide +kernel
theorem dL_law_880 : decode code 880 = .ok (.invokevirtual 91, 3) := by decide +kernel
theorem dL_law_883 : decode code 883 = .ok (.aload_n 2, 1) := by decide +kernel
theorem dL_law_884 : decode code 884 = .ok (.aload_n 0, 1) := by decide +kernel
theorem dL_law_885 : decode code 885 = .ok (.iload_n 3, 1) := by decide +kernel
theorem dL_law_886 : decode code 886 = .ok (.iconst 1, 1) := by decide +kernel
theorem dL_law_887 : decode code 887 = .ok (.iadd, 1) := by decide +kernel
theorem dL_law_888 : decode code 888 = .ok (.iaload, 1) := by decide +kernel
theorem dL_law_889 : decode code 889 = .ok (.aload_n 0, 1) := by decide +kernel
theorem dL_law_890 : decode code 890 = .ok (.iload_n 3, 1) := by decide +kernel
theorem dL_law_891 : decode code 891 = .ok (.iconst 2, 1) := by decide +kernel
theorem dL_law_892 : decode code 892 = .ok (.iadd, 1) := by decide +kernel
theorem dL_law_893 : decode code 893 = .ok (.iaload, 1) := by decide +kernel
theorem dL_law_894 : decode code 894 = .ok (.invokevirtual 94, 3) := by decide +kernel
theorem dL_law_897 : decode code 897 = .ok (.if_icmp .eq 937, 3) := by decide +kernel
theorem dL_law_900 : decode code 900 = .ok (.iconst 0, 1) := by decide +kernel
theorem dL_law_901 : decode code 901 = .ok (.ireturn, 1) := by decide +kernel
theorem dL_law_902 : decode code 902 = .ok (.aload_n 1, 1) := by decide +kernel
theorem dL_law_903 : decode code 903 = .ok (.aload_n 0, 1) := by decide +kernel
theorem dL_law_904 : decode code 904 = .ok (.iload_n 3, 1) := by decide +kernel
theorem dL_law_905 : decode code 905 = .ok (.iconst 1, 1) := by decide +kernel
theorem dL_law_906 : decode code 906 = .ok (.iadd, 1) := by decide +kernel
theorem dL_law_907 : decode code 907 = .ok (.iaload, 1) := by decide +kernel
theorem dL_law_908 : decode code 908 = .ok (.aload_n 0, 1) := by decide +kernel
theorem dL_law_909 : decode code 909 = .ok (.iload_n 3, 1) := by decide +kernel
theorem dL_law_910 : decode code 910 = .ok (.iconst 2, 1) := by decide +kernel
theorem dL_law_911 : decode code 911 = .ok (.iadd, 1) := by decide +kernel
theorem dL_law_912 : decode code 912 = .ok (.iaload, 1) := by decide +kernel
theorem dL_law_913 : decode code 913 = .ok (.invokevirtual 95, 3) := by decide +kernel
theorem dL_law_916 : decode code 916 = .ok (.aload_n 2, 1) := by decide +kernel
theorem dL_law_917 : decode code 917 = .ok (.aload_n 0, 1) := by decide +kernel
theorem dL_law_918 : decode code 918 = .ok (.iload_n 3, 1) := by decide +kernel
theorem dL_law_919 : decode code 919 = .ok (.iconst 1, 1) := by decide +kernel
theorem dL_law_920 : decode code 920 = .ok (.iadd, 1) := by decide +kernel
theorem dL_law_921 : decode code 921 = .ok (.iaload, 1) := by decide +kernel
theorem dL_law_922 : decode code 922 = .ok (.aload_n 0, 1) := by decide +kernel
theorem dL_law_923 : decode code 923 = .ok (.iload_n 3, 1) := by decide +kernel
theorem dL_law_924 : decode code 924 = .ok (.iconst 2, 1) := by decide +kernel
theorem dL_law_925 : decode code 925 = .ok (.iadd, 1) := by decide +kernel
theorem dL_law_926 : decode code 926 = .ok (.iaload, 1) := by decide +kernel
theorem dL_law_927 : decode code 927 = .ok (.invokevirtual 98, 3) := by decide +kernel
theorem dL_law_930 : decode code 930 = .ok (.if_icmp .eq 904, 3) := by decide +kernel
theorem dL_law_933 : decode code 933 = .ok (.iconst 0, 1) := by decide +kernel
theorem dL_law_934 : decode code 934 = .ok (.ireturn, 1) := by decide +kernel
theorem dL_law_935 : decode code 935 = .ok (.aload_n 1, 1) := by decide +kernel
theorem dL_law_936 : decode code 936 = .ok (.aload_n 0, 1) := by decide +kernel
theorem dL_law_937 : decode code 937 = .ok (.iload_n 3, 1) := by decide +kernel
theorem dL_law_938 : decode code 938 = .ok (.iconst 1, 1) := by decide +kernel
theorem dL_law_939 : decode code 939 = .ok (.iadd, 1) := by decide +kernel
theorem dL_law_940 : decode code 940 = .ok (.iaload, 1) := by decide +kernel
theorem dL_law_941 : decode code 941 = .ok (.aload_n 0, 1) := by decide +kernel
theorem dL_law_942 : decode code 942 = .ok (.iload_n 3, 1) := by decide +kernel
theorem dL_law_943 : decode code 943 = .ok (.iconst 2, 1) := by decide +kernel
theorem dL_law_944 : decode code 944 = .ok (.iadd, 1) := by decide +kernel
theorem dL_law_945 : decode code 945 = .ok (.iaload, 1) := by decide +kernel
theorem dL_law_946 : decode code 946 = .ok (.invokevirtual 99, 3) := by decide +kernel
theorem dL_law_949 : decode code 949 = .ok (.aload_n 2, 1) := by decide +kernel
theorem dL_law_950 : decode code 950 = .ok (.aload_n 0, 1) := by decide +kernel
theorem dL_law_951 : decode code 951 = .ok (.iload_n 3, 1) := by decide +kernel
theorem dL_law_952 : decode code 952 = .ok (.iconst 1, 1) := by decide +kernel
theorem dL_law_953 : decode code 953 = .ok (.iadd, 1) := by decide +kernel
theorem dL_law_954 : decode code 954 = .ok (.iaload, 1) := by decide +kernel
theorem dL_law_955 : decode code 955 = .ok (.aload_n 0, 1) := by decide +kernel
theorem dL_law_956 : decode code 956 = .ok (.iload_n 3, 1) := by decide +kernel
theorem dL_law_957 : decode code 957 = .ok (.iconst 2, 1) := by decide +kernel
theorem dL_law_958 : decode code 958 = .ok (.iadd, 1) := by decide +kernel
theorem dL_law_959 : decode code 959 = .ok (.iaload, 1) := by decide +kernel
theorem dL_law_960 : decode code 960 = .ok (.invokevirtual 102, 3) := by decide +kernel
theorem dL_law_963 : decode code 963 = .ok (.if_icmp .eq 871, 3) := by decide +kernel
theorem dL_law_966 : decode code 966 = .ok (.iconst 0, 1) := by decide +kernel
theorem dL_law_967 : decode code 967 = .ok (.ireturn, 1) := by decide +kernel
theorem dL_law_968 : decode code 968 = .ok (.aload_n 1, 1) := by decide +kernel
theorem dL_law_969 : decode code 969 = .ok (.aload_n 0, 1) := by decide +kernel
theorem dL_law_970 : decode code 970 = .ok (.iload_n 3, 1) := by decide +kernel
theorem dL_law_971 : decode code 971 = .ok (.iconst 1, 1) := by decide +kernel
theorem dL_law_972 : decode code 972 = .ok (.iadd, 1) := by decide +kernel
theorem dL_law_973 : decode code 973 = .ok (.iaload, 1) := by decide +kernel
theorem dL_law_974 : decode code 974 = .ok (.aload_n 0, 1) := by decide +kernel
theorem dL_law_975 : decode code 975 = .ok (.iload_n 3, 1) := by decide +kernel
theorem dL_law_976 : decode code 976 = .ok (.iconst 2, 1) := by decide +kernel
theorem dL_law_977 : decode code 977 = .ok (.iadd, 1) := by decide +kernel
theorem dL_law_978 : decode code 978 = .ok (.iaload, 1) := by decide +kernel
theorem dL_law_979 : decode code 979 = .ok (.invokevirtual 103, 3) := by decide +kernel
theorem dL_law_982 : decode code 982 = .ok (.aload_n 2, 1) := by decide +kernel
theorem dL_law_983 : decode code 983 = .ok (.aload_n 0, 1) := by decide +kernel
theorem dL_law_984 : decode code 984 = .ok (.iload_n 3, 1) := by decide +kernel
theorem dL_law_985 : decode code 985 = .ok (.iconst 1, 1) := by decide +kernel
theorem dL_law_986 : decode code 986 = .ok (.iadd, 1) := by decide +kernel
theorem dL_law_987 : decode code 987 = .ok (.iaload, 1) := by decide +kernel
theorem dL_law_988 : decode code 988 = .ok (.aload_n 0, 1) := by decide +kernel
theorem dL_law_989 : decode code 989 = .ok (.iload_n 3, 1) := by decide +kernel
theorem dL_law_990 : decode code 990 = .ok (.iconst 2, 1) := by decide +kernel
theorem dL_law_991 : decode code 991 = .ok (.iadd, 1) := by decide +kernel
theorem dL_law_992 : decode code 992 = .ok (.iaload, 1) := by decide +kernel
theorem dL_law_993 : decode code 993 = .ok (.invokevirtual 106, 3) := by decide +kernel
theorem dL_law_996 : decode code 996 = .ok (.if_icmp .eq 838, 3) := by decide +kernel
theorem dL_law_999 : decode code 999 = .ok (.iconst 0, 1) := by decide +kernel
theorem dL_law_1000 : decode code 1000 = .ok (.ireturn, 1) := by decide +kernel
theorem dL_law_1001 : decode code 1001 = .ok (.aload_n 1, 1) := by decide +kernel
theorem dL_law_1002 : decode code 1002 = .ok (.aload_n 0, 1) := by decide +kernel
theorem dL_law_1003 : decode code 1003 = .ok (.iload_n 3, 1) := by decide +kernel
theorem dL_law_1004 : decode code 1004 = .ok (.iconst 1, 1) := by decide +kernel
theorem dL_law_1005 : decode code 1005 = .ok (.iadd, 1) := by decide +kernel
theorem dL_law_1006 : decode code 1006 = .ok (.iaload, 1) := by decide +kernel
theorem dL_law_1007 : decode code 1007 = .ok (.aload_n 0, 1) := by decide +kernel
theorem dL_law_1008 : decode code 1008 = .ok (.iload_n 3, 1) := by decide +kernel
theorem dL_law_1009 : decode code 1009 = .ok (.iconst 2, 1) := by decide +kernel
theorem dL_law_1010 : decode code 1010 = .ok (.iadd, 1) := by decide +kernel
theorem dL_law_1011 : decode code 1011 = .ok (.iaload, 1) := by decide +kernel
theorem dL_law_1012 : decode code 1012 = .ok (.invokevirtual 107, 3) := by decide +kernel
theorem dL_law_1015 : decode code 1015 = .ok (.aload_n 2, 1) := by decide +kernel
theorem dL_law_1016 : decode code 1016 = .ok (.aload_n 0, 1) := by decide +kernel
theorem dL_law_1017 : decode code 1017 = .ok (.iload_n 3, 1) := by decide +kernel
theorem dL_law_1018 : decode code 1018 = .ok (.iconst 1, 1) := by decide +kernel
theorem dL_law_1019 : decode code 1019 = .ok (.iadd, 1) := by decide +kernel
theorem dL_law_1020 : decode code 1020 = .ok (.iaload, 1) := by decide +kernel
theorem dL_law_1021 : decode code 1021 = .ok (.aload_n 0, 1) := by decide +kernel
theorem dL_law_1022 : decode code 1022 = .ok (.iload_n 3, 1) := by decide +kernel
theorem dL_law_1023 : decode code 1023 = .ok (.iconst 2, 1) := by decide +kernel
theorem dL_law_1024 : decode code 1024 = .ok (.iadd, 1) := by decide +kernel
theorem dL_law_1025 : decode code 1025 = .ok (.iaload, 1) := by decide +kernel
theorem dL_law_1026 : decode code 1026 = .ok (.invokevirtual 110, 3) := by decide +kernel
theorem dL_law_1029 : decode code 1029 = .ok (.if_icmp .eq 805, 3) := by decide +kernel
theorem dL_law_1032 : decode code 1032 = .ok (.iconst 0, 1) := by decide +kernel
theorem dL_law_1033 : decode code 1033 = .ok (.ireturn, 1) := by decide +kernel
theorem dL_law_1034 : decode code 1034 = .ok (.aload_n 1, 1) := by decide +kernel
theorem dL_law_1035 : decode code 1035 = .ok (.aload_n 0, 1) := by decide +kernel
theorem dL_law_1036 : decode code 1036 = .ok (.iload_n 3, 1) := by decide +kernel
theorem dL_law_1037 : decode code 1037 = .ok (.iconst 1, 1) := by decide +kernel
theorem dL_law_1038 : decode code 1038 = .ok (.iadd, 1) := by decide +kernel
theorem dL_law_1039 : decode code 1039 = .ok (.iaload, 1) := by decide +kernel
theorem dL_law_1040 : decode code 1040 = .ok (.aload_n 0, 1) := by decide +kernel
theorem dL_law_1041 : decode code 1041 = .ok (.iload_n 3, 1) := by decide +kernel
theorem dL_law_1042 : decode code 1042 = .ok (.iconst 2, 1) := by decide +kernel
theorem dL_law_1043 : decode code 1043 = .ok (.iadd, 1) := by decide +kernel
theorem dL_law_1044 : decode code 1044 = .ok (.iaload, 1) := by decide +kernel
theorem dL_law_1045 : decode code 1045 = .ok (.ifCond .eq 7, 3) := by decide +kernel
theorem dL_law_1048 : decode code 1048 = .ok (.iconst 1, 1) := by decide +kernel
theorem dL_law_1049 : decode code 1049 = .ok (.goto 4, 3) := by decide +kernel
theorem dL_law_1052 : decode code 1052 = .ok (.iconst 0, 1) := by decide +kernel
theorem dL_law_1053 : decode code 1053 = .ok (.invokevirtual 111, 3) := by decide +kernel
theorem dL_law_1056 : decode code 1056 = .ok (.aload_n 2, 1) := by decide +kernel
theorem dL_law_1057 : decode code 1057 = .ok (.aload_n 0, 1) := by decide +kernel
theorem dL_law_1058 : decode code 1058 = .ok (.iload_n 3, 1) := by decide +kernel
theorem dL_law_1059 : decode code 1059 = .ok (.iconst 1, 1) := by decide +kernel
theorem dL_law_1060 : decode code 1060 = .ok (.iadd, 1) := by decide +kernel
theorem dL_law_1061 : decode code 1061 = .ok (.iaload, 1) := by decide +kernel
theorem dL_law_1062 : decode code 1062 = .ok (.aload_n 0, 1) := by decide +kernel
theorem dL_law_1063 : decode code 1063 = .ok (.iload_n 3, 1) := by decide +kernel
theorem dL_law_1064 : decode code 1064 = .ok (.iconst 2, 1) := by decide +kernel
theorem dL_law_1065 : decode code 1065 = .ok (.iadd, 1) := by decide +kernel
theorem dL_law_1066 : decode code 1066 = .ok (.iaload, 1) := by decide +kernel
theorem dL_law_1067 : decode code 1067 = .ok (.ifCond .eq 7, 3) := by decide +kernel
theorem dL_law_1070 : decode code 1070 = .ok (.iconst 1, 1) := by decide +kernel
theorem dL_law_1071 : decode code 1071 = .ok (.goto 4, 3) := by decide +kernel
theorem dL_law_1074 : decode code 1074 = .ok (.iconst 0, 1) := by decide +kernel
theorem dL_law_1075 : decode code 1075 = .ok (.invokevirtual 115, 3) := by decide +kernel
theorem dL_law_1078 : decode code 1078 = .ok (.if_icmp .eq 756, 3) := by decide +kernel
theorem dL_law_1081 : decode code 1081 = .ok (.iconst 0, 1) := by decide +kernel
theorem dL_law_1082 : decode code 1082 = .ok (.ireturn, 1) := by decide +kernel
theorem dL_law_1083 : decode code 1083 = .ok (.aload_n 1, 1) := by decide +kernel
theorem dL_law_1084 : decode code 1084 = .ok (.aload_n 0, 1) := by decide +kernel
theorem dL_law_1085 : decode code 1085 = .ok (.iload_n 3, 1) := by decide +kernel
theorem dL_law_1086 : decode code 1086 = .ok (.iconst 1, 1) := by decide +kernel
theorem dL_law_1087 : decode code 1087 = .ok (.iadd, 1) := by decide +kernel
theorem dL_law_1088 : decode code 1088 = .ok (.iaload, 1) := by decide +kernel
theorem dL_law_1089 : decode code 1089 = .ok (.invokevirtual 116, 3) := by decide +kernel
theorem dL_law_1092 : decode code 1092 = .ok (.aload_n 2, 1) := by decide +kernel
theorem dL_law_1093 : decode code 1093 = .ok (.aload_n 0, 1) := by decide +kernel
theorem dL_law_1094 : decode code 1094 = .ok (.iload_n 3, 1) := by decide +kernel
theorem dL_law_1095 : decode code 1095 = .ok (.iconst 1, 1) := by decide +kernel
theorem dL_law_1096 : decode code 1096 = .ok (.iadd, 1) := by decide +kernel
theorem dL_law_1097 : decode code 1097 = .ok (.iaload, 1) := by decide +kernel
theorem dL_law_1098 : decode code 1098 = .ok (.invokevirtual 119, 3) := by decide +kernel
theorem dL_law_1101 : decode code 1101 = .ok (.if_icmp .eq 733, 3) := by decide +kernel
theorem dL_law_1104 : decode code 1104 = .ok (.iconst 0, 1) := by decide +kernel
theorem dL_law_1105 : decode code 1105 = .ok (.ireturn, 1) := by decide +kernel
theorem dL_law_1106 : decode code 1106 = .ok (.aload_n 1, 1) := by decide +kernel
theorem dL_law_1107 : decode code 1107 = .ok (.aload_n 0, 1) := by decide +kernel
theorem dL_law_1108 : decode code 1108 = .ok (.iload_n 3, 1) := by decide +kernel
theorem dL_law_1109 : decode code 1109 = .ok (.iconst 1, 1) := by decide +kernel
theorem dL_law_1110 : decode code 1110 = .ok (.iadd, 1) := by decide +kernel
theorem dL_law_1111 : decode code 1111 = .ok (.iaload, 1) := by decide +kernel
theorem dL_law_1112 : decode code 1112 = .ok (.aload_n 0, 1) := by decide +kernel
theorem dL_law_1113 : decode code 1113 = .ok (.iload_n 3, 1) := by decide +kernel
theorem dL_law_1114 : decode code 1114 = .ok (.iconst 2, 1) := by decide +kernel
theorem dL_law_1115 : decode code 1115 = .ok (.iadd, 1) := by decide +kernel
theorem dL_law_1116 : decode code 1116 = .ok (.iaload, 1) := by decide +kernel
theorem dL_law_1117 : decode code 1117 = .ok (.ifCond .eq 7, 3) := by decide +kernel
theorem dL_law_1120 : decode code 1120 = .ok (.iconst 1, 1) := by decide +kernel
theorem dL_law_1121 : decode code 1121 = .ok (.goto 4, 3) := by decide +kernel
theorem dL_law_1124 : decode code 1124 = .ok (.iconst 0, 1) := by decide +kernel
theorem dL_law_1125 : decode code 1125 = .ok (.invokevirtual 120, 3) := by decide +kernel
theorem dL_law_1128 : decode code 1128 = .ok (.aload_n 2, 1) := by decide +kernel
theorem dL_law_1129 : decode code 1129 = .ok (.aload_n 0, 1) := by decide +kernel
theorem dL_law_1130 : decode code 1130 = .ok (.iload_n 3, 1) := by decide +kernel
theorem dL_law_1131 : decode code 1131 = .ok (.iconst 1, 1) := by decide +kernel
theorem dL_law_1132 : decode code 1132 = .ok (.iadd, 1) := by decide +kernel
theorem dL_law_1133 : decode code 1133 = .ok (.iaload, 1) := by decide +kernel
theorem dL_law_1134 : decode code 1134 = .ok (.aload_n 0, 1) := by decide +kernel
theorem dL_law_1135 : decode code 1135 = .ok (.iload_n 3, 1) := by decide +kernel
theorem dL_law_1136 : decode code 1136 = .ok (.iconst 2, 1) := by decide +kernel
theorem dL_law_1137 : decode code 1137 = .ok (.iadd, 1) := by decide +kernel
theorem dL_law_1138 : decode code 1138 = .ok (.iaload, 1) := by decide +kernel
theorem dL_law_1139 : decode code 1139 = .ok (.ifCond .eq 7, 3) := by decide +kernel
theorem dL_law_1142 : decode code 1142 = .ok (.iconst 1, 1) := by decide +kernel
theorem dL_law_1143 : decode code 1143 = .ok (.goto 4, 3) := by decide +kernel
theorem dL_law_1146 : decode code 1146 = .ok (.iconst 0, 1) := by decide +kernel
theorem dL_law_1147 : decode code 1147 = .ok (.invokevirtual 123, 3) := by decide +kernel
theorem dL_law_1150 : decode code 1150 = .ok (.if_icmp .eq 684, 3) := by decide +kernel
theorem dL_law_1153 : decode code 1153 = .ok (.iconst 0, 1) := by decide +kernel
theorem dL_law_1154 : decode code 1154 = .ok (.ireturn, 1) := by decide +kernel
theorem dL_law_1155 : decode code 1155 = .ok (.aload_n 1, 1) := by decide +kernel
theorem dL_law_1156 : decode code 1156 = .ok (.aload_n 0, 1) := by decide +kernel
theorem dL_law_1157 : decode code 1157 = .ok (.iload_n 3, 1) := by decide +kernel
theorem dL_law_1158 : decode code 1158 = .ok (.iconst 1, 1) := by decide +kernel
theorem dL_law_1159 : decode code 1159 = .ok (.iadd, 1) := by decide +kernel
theorem dL_law_1160 : decode code 1160 = .ok (.iaload, 1) := by decide +kernel
theorem dL_law_1161 : decode code 1161 = .ok (.invokevirtual 124, 3) := by decide +kernel
theorem dL_law_1164 : decode code 1164 = .ok (.aload_n 2, 1) := by decide +kernel
theorem dL_law_1165 : decode code 1165 = .ok (.aload_n 0, 1) := by decide +kernel
theorem dL_law_1166 : decode code 1166 = .ok (.iload_n 3, 1) := by decide +kernel
theorem dL_law_1167 : decode code 1167 = .ok (.iconst 1, 1) := by decide +kernel
theorem dL_law_1168 : decode code 1168 = .ok (.iadd, 1) := by decide +kernel
theorem dL_law_1169 : decode code 1169 = .ok (.iaload, 1) := by decide +kernel
theorem dL_law_1170 : decode code 1170 = .ok (.invokevirtual 127, 3) := by decide +kernel
theorem dL_law_1173 : decode code 1173 = .ok (.if_icmp .eq 661, 3) := by decide +kernel
theorem dL_law_1176 : decode code 1176 = .ok (.iconst 0, 1) := by decide +kernel
theorem dL_law_1177 : decode code 1177 = .ok (.ireturn, 1) := by decide +kernel
theorem dL_law_1178 : decode code 1178 = .ok (.aload_n 1, 1) := by decide +kernel
theorem dL_law_1179 : decode code 1179 = .ok (.aload_n 0, 1) := by decide +kernel
theorem dL_law_1180 : decode code 1180 = .ok (.iload_n 3, 1) := by decide +kernel
theorem dL_law_1181 : decode code 1181 = .ok (.iconst 1, 1) := by decide +kernel
theorem dL_law_1182 : decode code 1182 = .ok (.iadd, 1) := by decide +kernel
theorem dL_law_1183 : decode code 1183 = .ok (.iaload, 1) := by decide +kernel
theorem dL_law_1184 : decode code 1184 = .ok (.invokevirtual 128, 3) := by decide +kernel
theorem dL_law_1187 : decode code 1187 = .ok (.aload_n 2, 1) := by decide +kernel
theorem dL_law_1188 : decode code 1188 = .ok (.aload_n 0, 1) := by decide +kernel
theorem dL_law_1189 : decode code 1189 = .ok (.iload_n 3, 1) := by decide +kernel
theorem dL_law_1190 : decode code 1190 = .ok (.iconst 1, 1) := by decide +kernel
theorem dL_law_1191 : decode code 1191 = .ok (.iadd, 1) := by decide +kernel
theorem dL_law_1192 : decode code 1192 = .ok (.iaload, 1) := by decide +kernel
theorem dL_law_1193 : decode code 1193 = .ok (.invokevirtual 131, 3) := by decide +kernel
theorem dL_law_1196 : decode code 1196 = .ok (.if_icmp .eq 638, 3) := by decide +kernel
theorem dL_law_1199 : decode code 1199 = .ok (.iconst 0, 1) := by decide +kernel
theorem dL_law_1200 : decode code 1200 = .ok (.ireturn, 1) := by decide +kernel
theorem dL_law_1201 : decode code 1201 = .ok (.aload_n 1, 1) := by decide +kernel
theorem dL_law_1202 : decode code 1202 = .ok (.aload_n 0, 1) := by decide +kernel
theorem dL_law_1203 : decode code 1203 = .ok (.iload_n 3, 1) := by decide +kernel
theorem dL_law_1204 : decode code 1204 = .ok (.iconst 1, 1) := by decide +kernel
theorem dL_law_1205 : decode code 1205 = .ok (.iadd, 1) := by decide +kernel
theorem dL_law_1206 : decode code 1206 = .ok (.iaload, 1) := by decide +kernel
theorem dL_law_1207 : decode code 1207 = .ok (.invokevirtual 132, 3) := by decide +kernel
theorem dL_law_1210 : decode code 1210 = .ok (.aload_n 2, 1) := by decide +kernel
theorem dL_law_1211 : decode code 1211 = .ok (.aload_n 0, 1) := by decide +kernel
theorem dL_law_1212 : decode code 1212 = .ok (.iload_n 3, 1) := by decide +kernel
theorem dL_law_1213 : decode code 1213 = .ok (.iconst 1, 1) := by decide +kernel
theorem dL_law_1214 : decode code 1214 = .ok (.iadd, 1) := by decide +kernel
theorem dL_law_1215 : decode code 1215 = .ok (.iaload, 1) := by decide +kernel
theorem dL_law_1216 : decode code 1216 = .ok (.invokevirtual 135, 3) := by decide +kernel
theorem dL_law_1219 : decode code 1219 = .ok (.if_icmp .eq 615, 3) := by decide +kernel
theorem dL_law_1222 : decode code 1222 = .ok (.iconst 0, 1) := by decide +kernel
theorem dL_law_1223 : decode code 1223 = .ok (.ireturn, 1) := by decide +kernel
theorem dL_law_1224 : decode code 1224 = .ok (.aload_n 1, 1) := by decide +kernel
theorem dL_law_1225 : decode code 1225 = .ok (.aload_n 0, 1) := by decide +kernel
theorem dL_law_1226 : decode code 1226 = .ok (.iload_n 3, 1) := by decide +kernel
theorem dL_law_1227 : decode code 1227 = .ok (.iconst 1, 1) := by decide +kernel
theorem dL_law_1228 : decode code 1228 = .ok (.iadd, 1) := by decide +kernel
theorem dL_law_1229 : decode code 1229 = .ok (.iaload, 1) := by decide +kernel
theorem dL_law_1230 : decode code 1230 = .ok (.aload_n 0, 1) := by decide +kernel
theorem dL_law_1231 : decode code 1231 = .ok (.iload_n 3, 1) := by decide +kernel
theorem dL_law_1232 : decode code 1232 = .ok (.iconst 2, 1) := by decide +kernel
theorem dL_law_1233 : decode code 1233 = .ok (.iadd, 1) := by decide +kernel
theorem dL_law_1234 : decode code 1234 = .ok (.iaload, 1) := by decide +kernel
theorem dL_law_1235 : decode code 1235 = .ok (.invokevirtual 136, 3) := by decide +kernel
theorem dL_law_1238 : decode code 1238 = .ok (.aload_n 2, 1) := by decide +kernel
theorem dL_law_1239 : decode code 1239 = .ok (.aload_n 0, 1) := by decide +kernel
theorem dL_law_1240 : decode code 1240 = .ok (.iload_n 3, 1) := by decide +kernel
theorem dL_law_1241 : decode code 1241 = .ok (.iconst 1, 1) := by decide +kernel
theorem dL_law_1242 : decode code 1242 = .ok (.iadd, 1) := by decide +kernel
theorem dL_law_1243 : decode code 1243 = .ok (.iaload, 1) := by decide +kernel
theorem dL_law_1244 : decode code 1244 = .ok (.aload_n 0, 1) := by decide +kernel
theorem dL_law_1245 : decode code 1245 = .ok (.iload_n 3, 1) := by decide +kernel
theorem dL_law_1246 : decode code 1246 = .ok (.iconst 2, 1) := by decide +kernel
theorem dL_law_1247 : decode code 1247 = .ok (.iadd, 1) := by decide +kernel
theorem dL_law_1248 : decode code 1248 = .ok (.iaload, 1) := by decide +kernel
theorem dL_law_1249 : decode code 1249 = .ok (.invokevirtual 139, 3) := by decide +kernel
theorem dL_law_1252 : decode code 1252 = .ok (.if_icmp .eq 582, 3) := by decide +kernel
theorem dL_law_1255 : decode code 1255 = .ok (.iconst 0, 1) := by decide +kernel
theorem dL_law_1256 : decode code 1256 = .ok (.ireturn, 1) := by decide +kernel
theorem dL_law_1257 : decode code 1257 = .ok (.aload_n 1, 1) := by decide +kernel
theorem dL_law_1258 : decode code 1258 = .ok (.aload_n 0, 1) := by decide +kernel
theorem dL_law_1259 : decode code 1259 = .ok (.iload_n 3, 1) := by decide +kernel
theorem dL_law_1260 : decode code 1260 = .ok (.iconst 1, 1) := by decide +kernel
theorem dL_law_1261 : decode code 1261 = .ok (.iadd, 1) := by decide +kernel
theorem dL_law_1262 : decode code 1262 = .ok (.iaload, 1) := by decide +kernel
theorem dL_law_1263 : decode code 1263 = .ok (.aload_n 0, 1) := by decide +kernel
theorem dL_law_1264 : decode code 1264 = .ok (.iload_n 3, 1) := by decide +kernel
theorem dL_law_1265 : decode code 1265 = .ok (.iconst 2, 1) := by decide +kernel
theorem dL_law_1266 : decode code 1266 = .ok (.iadd, 1) := by decide +kernel
theorem dL_law_1267 : decode code 1267 = .ok (.iaload, 1) := by decide +kernel
theorem dL_law_1268 : decode code 1268 = .ok (.invokevirtual 140, 3) := by decide +kernel
theorem dL_law_1271 : decode code 1271 = .ok (.aload_n 2, 1) := by decide +kernel
theorem dL_law_1272 : decode code 1272 = .ok (.aload_n 0, 1) := by decide +kernel
theorem dL_law_1273 : decode code 1273 = .ok (.iload_n 3, 1) := by decide +kernel
theorem dL_law_1274 : decode code 1274 = .ok (.iconst 1, 1) := by decide +kernel
theorem dL_law_1275 : decode code 1275 = .ok (.iadd, 1) := by decide +kernel
theorem dL_law_1276 : decode code 1276 = .ok (.iaload, 1) := by decide +kernel
theorem dL_law_1277 : decode code 1277 = .ok (.aload_n 0, 1) := by decide +kernel
theorem dL_law_1278 : decode code 1278 = .ok (.iload_n 3, 1) := by decide +kernel
theorem dL_law_1279 : decode code 1279 = .ok (.iconst 2, 1) := by decide +kernel
theorem dL_law_1280 : decode code 1280 = .ok (.iadd, 1) := by decide +kernel
theorem dL_law_1281 : decode code 1281 = .ok (.iaload, 1) := by decide +kernel
theorem dL_law_1282 : decode code 1282 = .ok (.invokevirtual 143, 3) := by decide +kernel
theorem dL_law_1285 : decode code 1285 = .ok (.if_icmp .eq 549, 3) := by decide +kernel
theorem dL_law_1288 : decode code 1288 = .ok (.iconst 0, 1) := by decide +kernel
theorem dL_law_1289 : decode code 1289 = .ok (.ireturn, 1) := by decide +kernel
theorem dL_law_1290 : decode code 1290 = .ok (.aload_n 1, 1) := by decide +kernel
theorem dL_law_1291 : decode code 1291 = .ok (.invokevirtual 144, 3) := by decide +kernel
theorem dL_law_1294 : decode code 1294 = .ok (.aload_n 2, 1) := by decide +kernel
theorem dL_law_1295 : decode code 1295 = .ok (.invokevirtual 147, 3) := by decide +kernel
theorem dL_law_1298 : decode code 1298 = .ok (.if_icmp .eq 536, 3) := by decide +kernel
theorem dL_law_1301 : decode code 1301 = .ok (.iconst 0, 1) := by decide +kernel
theorem dL_law_1302 : decode code 1302 = .ok (.ireturn, 1) := by decide +kernel
theorem dL_law_1303 : decode code 1303 = .ok (.aload_n 1, 1) := by decide +kernel
theorem dL_law_1304 : decode code 1304 = .ok (.aload_n 0, 1) := by decide +kernel
theorem dL_law_1305 : decode code 1305 = .ok (.iload_n 3, 1) := by decide +kernel
theorem dL_law_1306 : decode code 1306 = .ok (.iconst 1, 1) := by decide +kernel
theorem dL_law_1307 : decode code 1307 = .ok (.iadd, 1) := by decide +kernel
theorem dL_law_1308 : decode code 1308 = .ok (.iaload, 1) := by decide +kernel
theorem dL_law_1309 : decode code 1309 = .ok (.invokevirtual 148, 3) := by decide +kernel
theorem dL_law_1312 : decode code 1312 = .ok (.aload_n 2, 1) := by decide +kernel
theorem dL_law_1313 : decode code 1313 = .ok (.aload_n 0, 1) := by decide +kernel
theorem dL_law_1314 : decode code 1314 = .ok (.iload_n 3, 1) := by decide +kernel
theorem dL_law_1315 : decode code 1315 = .ok (.iconst 1, 1) := by decide +kernel
theorem dL_law_1316 : decode code 1316 = .ok (.iadd, 1) := by decide +kernel
theorem dL_law_1317 : decode code 1317 = .ok (.iaload, 1) := by decide +kernel
theorem dL_law_1318 : decode code 1318 = .ok (.invokevirtual 151, 3) := by decide +kernel
theorem dL_law_1321 : decode code 1321 = .ok (.if_icmp .eq 513, 3) := by decide +kernel
theorem dL_law_1324 : decode code 1324 = .ok (.iconst 0, 1) := by decide +kernel
theorem dL_law_1325 : decode code 1325 = .ok (.ireturn, 1) := by decide +kernel
theorem dL_law_1326 : decode code 1326 = .ok (.aload_n 1, 1) := by decide +kernel
theorem dL_law_1327 : decode code 1327 = .ok (.aload_n 0, 1) := by decide +kernel
theorem dL_law_1328 : decode code 1328 = .ok (.iload_n 3, 1) := by decide +kernel
theorem dL_law_1329 : decode code 1329 = .ok (.iconst 1, 1) := by decide +kernel
theorem dL_law_1330 : decode code 1330 = .ok (.iadd, 1) := by decide +kernel
theorem dL_law_1331 : decode code 1331 = .ok (.iaload, 1) := by decide +kernel
theorem dL_law_1332 : decode code 1332 = .ok (.invokevirtual 152, 3) := by decide +kernel
theorem dL_law_1335 : decode code 1335 = .ok (.aload_n 2, 1) := by decide +kernel
theorem dL_law_1336 : decode code 1336 = .ok (.aload_n 0, 1) := by decide +kernel
theorem dL_law_1337 : decode code 1337 = .ok (.iload_n 3, 1) := by decide +kernel
theorem dL_law_1338 : decode code 1338 = .ok (.iconst 1, 1) := by decide +kernel
theorem dL_law_1339 : decode code 1339 = .ok (.iadd, 1) := by decide +kernel
theorem dL_law_1340 : decode code 1340 = .ok (.iaload, 1) := by decide +kernel
theorem dL_law_1341 : decode code 1341 = .ok (.invokevirtual 155, 3) := by decide +kernel
theorem dL_law_1344 : decode code 1344 = .ok (.if_icmp .eq 490, 3) := by decide +kernel
theorem dL_law_1347 : decode code 1347 = .ok (.iconst 0, 1) := by decide +kernel
theorem dL_law_1348 : decode code 1348 = .ok (.ireturn, 1) := by decide +kernel
theorem dL_law_1349 : decode code 1349 = .ok (.aload_n 1, 1) := by decide +kernel
theorem dL_law_1350 : decode code 1350 = .ok (.aload_n 0, 1) := by decide +kernel
theorem dL_law_1351 : decode code 1351 = .ok (.iload_n 3, 1) := by decide +kernel
theorem dL_law_1352 : decode code 1352 = .ok (.iconst 1, 1) := by decide +kernel
theorem dL_law_1353 : decode code 1353 = .ok (.iadd, 1) := by decide +kernel
theorem dL_law_1354 : decode code 1354 = .ok (.iaload, 1) := by decide +kernel
theorem dL_law_1355 : decode code 1355 = .ok (.aload_n 0, 1) := by decide +kernel
theorem dL_law_1356 : decode code 1356 = .ok (.iload_n 3, 1) := by decide +kernel
theorem dL_law_1357 : decode code 1357 = .ok (.iconst 2, 1) := by decide +kernel
theorem dL_law_1358 : decode code 1358 = .ok (.iadd, 1) := by decide +kernel
theorem dL_law_1359 : decode code 1359 = .ok (.iaload, 1) := by decide +kernel
theorem dL_law_1360 : decode code 1360 = .ok (.invokevirtual 156, 3) := by decide +kernel
theorem dL_law_1363 : decode code 1363 = .ok (.aload_n 2, 1) := by decide +kernel
theorem dL_law_1364 : decode code 1364 = .ok (.aload_n 0, 1) := by decide +kernel
theorem dL_law_1365 : decode code 1365 = .ok (.iload_n 3, 1) := by decide +kernel
theorem dL_law_1366 : decode code 1366 = .ok (.iconst 1, 1) := by decide +kernel
theorem dL_law_1367 : decode code 1367 = .ok (.iadd, 1) := by decide +kernel
theorem dL_law_1368 : decode code 1368 = .ok (.iaload, 1) := by decide +kernel
theorem dL_law_1369 : decode code 1369 = .ok (.aload_n 0, 1) := by decide +kernel
theorem dL_law_1370 : decode code 1370 = .ok (.iload_n 3, 1) := by decide +kernel
theorem dL_law_1371 : decode code 1371 = .ok (.iconst 2, 1) := by decide +kernel
theorem dL_law_1372 : decode code 1372 = .ok (.iadd, 1) := by decide +kernel
theorem dL_law_1373 : decode code 1373 = .ok (.iaload, 1) := by decide +kernel
theorem dL_law_1374 : decode code 1374 = .ok (.invokevirtual 159, 3) := by decide +kernel
theorem dL_law_1377 : decode code 1377 = .ok (.if_icmp .eq 457, 3) := by decide +kernel
theorem dL_law_1380 : decode code 1380 = .ok (.iconst 0, 1) := by decide +kernel
theorem dL_law_1381 : decode code 1381 = .ok (.ireturn, 1) := by decide +kernel
theorem dL_law_1382 : decode code 1382 = .ok (.aload_n 1, 1) := by decide +kernel
theorem dL_law_1383 : decode code 1383 = .ok (.aload_n 0, 1) := by decide +kernel
theorem dL_law_1384 : decode code 1384 = .ok (.iload_n 3, 1) := by decide +kernel
theorem dL_law_1385 : decode code 1385 = .ok (.iconst 1, 1) := by decide +kernel
theorem dL_law_1386 : decode code 1386 = .ok (.iadd, 1) := by decide +kernel
theorem dL_law_1387 : decode code 1387 = .ok (.iaload, 1) := by decide +kernel
theorem dL_law_1388 : decode code 1388 = .ok (.aload_n 0, 1) := by decide +kernel
theorem dL_law_1389 : decode code 1389 = .ok (.iload_n 3, 1) := by decide +kernel
theorem dL_law_1390 : decode code 1390 = .ok (.iconst 2, 1) := by decide +kernel
theorem dL_law_1391 : decode code 1391 = .ok (.iadd, 1) := by decide +kernel
theorem dL_law_1392 : decode code 1392 = .ok (.iaload, 1) := by decide +kernel
theorem dL_law_1393 : decode code 1393 = .ok (.aload_n 0, 1) := by decide +kernel
theorem dL_law_1394 : decode code 1394 = .ok (.iload_n 3, 1) := by decide +kernel
theorem dL_law_1395 : decode code 1395 = .ok (.iconst 3, 1) := by decide +kernel
theorem dL_law_1396 : decode code 1396 = .ok (.iadd, 1) := by decide +kernel
theorem dL_law_1397 : decode code 1397 = .ok (.iaload, 1) := by decide +kernel
theorem dL_law_1398 : decode code 1398 = .ok (.invokevirtual 160, 3) := by decide +kernel
theorem dL_law_1401 : decode code 1401 = .ok (.aload_n 2, 1) := by decide +kernel
theorem dL_law_1402 : decode code 1402 = .ok (.aload_n 0, 1) := by decide +kernel
theorem dL_law_1403 : decode code 1403 = .ok (.iload_n 3, 1) := by decide +kernel
theorem dL_law_1404 : decode code 1404 = .ok (.iconst 1, 1) := by decide +kernel
theorem dL_law_1405 : decode code 1405 = .ok (.iadd, 1) := by decide +kernel
theorem dL_law_1406 : decode code 1406 = .ok (.iaload, 1) := by decide +kernel
theorem dL_law_1407 : decode code 1407 = .ok (.aload_n 0, 1) := by decide +kernel
theorem dL_law_1408 : decode code 1408 = .ok (.iload_n 3, 1) := by decide +kernel
theorem dL_law_1409 : decode code 1409 = .ok (.iconst 2, 1) := by decide +kernel
theorem dL_law_1410 : decode code 1410 = .ok (.iadd, 1) := by decide +kernel
theorem dL_law_1411 : decode code 1411 = .ok (.iaload, 1) := by decide +kernel
theorem dL_law_1412 : decode code 1412 = .ok (.aload_n 0, 1) := by decide +kernel
theorem dL_law_1413 : decode code 1413 = .ok (.iload_n 3, 1) := by decide +kernel
theorem dL_law_1414 : decode code 1414 = .ok (.iconst 3, 1) := by decide +kernel
theorem dL_law_1415 : decode code 1415 = .ok (.iadd, 1) := by decide +kernel
theorem dL_law_1416 : decode code 1416 = .ok (.iaload, 1) := by decide +kernel
theorem dL_law_1417 : decode code 1417 = .ok (.invokevirtual 163, 3) := by decide +kernel
theorem dL_law_1420 : decode code 1420 = .ok (.lcmp, 1) := by decide +kernel
theorem dL_law_1421 : decode code 1421 = .ok (.ifCond .eq 413, 3) := by decide +kernel
theorem dL_law_1424 : decode code 1424 = .ok (.iconst 0, 1) := by decide +kernel
theorem dL_law_1425 : decode code 1425 = .ok (.ireturn, 1) := by decide +kernel
theorem dL_law_1426 : decode code 1426 = .ok (.aload_n 1, 1) := by decide +kernel
theorem dL_law_1427 : decode code 1427 = .ok (.aload_n 0, 1) := by decide +kernel
theorem dL_law_1428 : decode code 1428 = .ok (.iload_n 3, 1) := by decide +kernel
theorem dL_law_1429 : decode code 1429 = .ok (.iconst 1, 1) := by decide +kernel
theorem dL_law_1430 : decode code 1430 = .ok (.iadd, 1) := by decide +kernel
theorem dL_law_1431 : decode code 1431 = .ok (.iaload, 1) := by decide +kernel
theorem dL_law_1432 : decode code 1432 = .ok (.invokevirtual 164, 3) := by decide +kernel
theorem dL_law_1435 : decode code 1435 = .ok (.aload_n 2, 1) := by decide +kernel
theorem dL_law_1436 : decode code 1436 = .ok (.aload_n 0, 1) := by decide +kernel
theorem dL_law_1437 : decode code 1437 = .ok (.iload_n 3, 1) := by decide +kernel
theorem dL_law_1438 : decode code 1438 = .ok (.iconst 1, 1) := by decide +kernel
theorem dL_law_1439 : decode code 1439 = .ok (.iadd, 1) := by decide +kernel
theorem dL_law_1440 : decode code 1440 = .ok (.iaload, 1) := by decide +kernel
theorem dL_law_1441 : decode code 1441 = .ok (.invokevirtual 168, 3) := by decide +kernel
theorem dL_law_1444 : decode code 1444 = .ok (.lcmp, 1) := by decide +kernel
theorem dL_law_1445 : decode code 1445 = .ok (.ifCond .eq 389, 3) := by decide +kernel
theorem dL_law_1448 : decode code 1448 = .ok (.iconst 0, 1) := by decide +kernel
theorem dL_law_1449 : decode code 1449 = .ok (.ireturn, 1) := by decide +kernel
theorem dL_law_1450 : decode code 1450 = .ok (.aload_n 1, 1) := by decide +kernel
theorem dL_law_1451 : decode code 1451 = .ok (.aload_n 0, 1) := by decide +kernel
theorem dL_law_1452 : decode code 1452 = .ok (.iload_n 3, 1) := by decide +kernel
theorem dL_law_1453 : decode code 1453 = .ok (.iconst 1, 1) := by decide +kernel
theorem dL_law_1454 : decode code 1454 = .ok (.iadd, 1) := by decide +kernel
theorem dL_law_1455 : decode code 1455 = .ok (.iaload, 1) := by decide +kernel
theorem dL_law_1456 : decode code 1456 = .ok (.aload_n 0, 1) := by decide +kernel
theorem dL_law_1457 : decode code 1457 = .ok (.iload_n 3, 1) := by decide +kernel
theorem dL_law_1458 : decode code 1458 = .ok (.iconst 2, 1) := by decide +kernel
theorem dL_law_1459 : decode code 1459 = .ok (.iadd, 1) := by decide +kernel
theorem dL_law_1460 : decode code 1460 = .ok (.iaload, 1) := by decide +kernel
theorem dL_law_1461 : decode code 1461 = .ok (.invokevirtual 169, 3) := by decide +kernel
theorem dL_law_1464 : decode code 1464 = .ok (.aload_n 2, 1) := by decide +kernel
theorem dL_law_1465 : decode code 1465 = .ok (.aload_n 0, 1) := by decide +kernel
theorem dL_law_1466 : decode code 1466 = .ok (.iload_n 3, 1) := by decide +kernel
theorem dL_law_1467 : decode code 1467 = .ok (.iconst 1, 1) := by decide +kernel
theorem dL_law_1468 : decode code 1468 = .ok (.iadd, 1) := by decide +kernel
theorem dL_law_1469 : decode code 1469 = .ok (.iaload, 1) := by decide +kernel
theorem dL_law_1470 : decode code 1470 = .ok (.aload_n 0, 1) := by decide +kernel
theorem dL_law_1471 : decode code 1471 = .ok (.iload_n 3, 1) := by decide +kernel
theorem dL_law_1472 : decode code 1472 = .ok (.iconst 2, 1) := by decide +kernel
theorem dL_law_1473 : decode code 1473 = .ok (.iadd, 1) := by decide +kernel
theorem dL_law_1474 : decode code 1474 = .ok (.iaload, 1) := by decide +kernel
theorem dL_law_1475 : decode code 1475 = .ok (.invokevirtual 172, 3) := by decide +kernel
theorem dL_law_1478 : decode code 1478 = .ok (.if_icmp .eq 356, 3) := by decide +kernel
theorem dL_law_1481 : decode code 1481 = .ok (.iconst 0, 1) := by decide +kernel
theorem dL_law_1482 : decode code 1482 = .ok (.ireturn, 1) := by decide +kernel
theorem dL_law_1483 : decode code 1483 = .ok (.aload_n 1, 1) := by decide +kernel
theorem dL_law_1484 : decode code 1484 = .ok (.aload_n 0, 1) := by decide +kernel
theorem dL_law_1485 : decode code 1485 = .ok (.iload_n 3, 1) := by decide +kernel
theorem dL_law_1486 : decode code 1486 = .ok (.iconst 1, 1) := by decide +kernel
theorem dL_law_1487 : decode code 1487 = .ok (.iadd, 1) := by decide +kernel
theorem dL_law_1488 : decode code 1488 = .ok (.iaload, 1) := by decide +kernel
theorem dL_law_1489 : decode code 1489 = .ok (.aload_n 0, 1) := by decide +kernel
theorem dL_law_1490 : decode code 1490 = .ok (.iload_n 3, 1) := by decide +kernel
theorem dL_law_1491 : decode code 1491 = .ok (.iconst 2, 1) := by decide +kernel
theorem dL_law_1492 : decode code 1492 = .ok (.iadd, 1) := by decide +kernel
theorem dL_law_1493 : decode code 1493 = .ok (.iaload, 1) := by decide +kernel
theorem dL_law_1494 : decode code 1494 = .ok (.invokevirtual 173, 3) := by decide +kernel
theorem dL_law_1497 : decode code 1497 = .ok (.aload_n 2, 1) := by decide +kernel
theorem dL_law_1498 : decode code 1498 = .ok (.aload_n 0, 1) := by decide +kernel
theorem dL_law_1499 : decode code 1499 = .ok (.iload_n 3, 1) := by decide +kernel
theorem dL_law_1500 : decode code 1500 = .ok (.iconst 1, 1) := by decide +kernel
theorem dL_law_1501 : decode code 1501 = .ok (.iadd, 1) := by decide +kernel
theorem dL_law_1502 : decode code 1502 = .ok (.iaload, 1) := by decide +kernel
theorem dL_law_1503 : decode code 1503 = .ok (.aload_n 0, 1) := by decide +kernel
theorem dL_law_1504 : decode code 1504 = .ok (.iload_n 3, 1) := by decide +kernel
theorem dL_law_1505 : decode code 1505 = .ok (.iconst 2, 1) := by decide +kernel
theorem dL_law_1506 : decode code 1506 = .ok (.iadd, 1) := by decide +kernel
theorem dL_law_1507 : decode code 1507 = .ok (.iaload, 1) := by decide +kernel
theorem dL_law_1508 : decode code 1508 = .ok (.invokevirtual 177, 3) := by decide +kernel
theorem dL_law_1511 : decode code 1511 = .ok (.lcmp, 1) := by decide +kernel
theorem dL_law_1512 : decode code 1512 = .ok (.ifCond .eq 322, 3) := by decide +kernel
theorem dL_law_1515 : decode code 1515 = .ok (.iconst 0, 1) := by decide +kernel
theorem dL_law_1516 : decode code 1516 = .ok (.ireturn, 1) := by decide +kernel
theorem dL_law_1517 : decode code 1517 = .ok (.aload_n 1, 1) := by decide +kernel
theorem dL_law_1518 : decode code 1518 = .ok (.aload_n 0, 1) := by decide +kernel
theorem dL_law_1519 : decode code 1519 = .ok (.iload_n 3, 1) := by decide +kernel
theorem dL_law_1520 : decode code 1520 = .ok (.iconst 1, 1) := by decide +kernel
theorem dL_law_1521 : decode code 1521 = .ok (.iadd, 1) := by decide +kernel
theorem dL_law_1522 : decode code 1522 = .ok (.iaload, 1) := by decide +kernel
theorem dL_law_1523 : decode code 1523 = .ok (.aload_n 0, 1) := by decide +kernel
theorem dL_law_1524 : decode code 1524 = .ok (.iload_n 3, 1) := by decide +kernel
theorem dL_law_1525 : decode code 1525 = .ok (.iconst 2, 1) := by decide +kernel
theorem dL_law_1526 : decode code 1526 = .ok (.iadd, 1) := by decide +kernel
theorem dL_law_1527 : decode code 1527 = .ok (.iaload, 1) := by decide +kernel
theorem dL_law_1528 : decode code 1528 = .ok (.invokevirtual 178, 3) := by decide +kernel
theorem dL_law_1531 : decode code 1531 = .ok (.aload_n 2, 1) := by decide +kernel
theorem dL_law_1532 : decode code 1532 = .ok (.aload_n 0, 1) := by decide +kernel
theorem dL_law_1533 : decode code 1533 = .ok (.iload_n 3, 1) := by decide +kernel
theorem dL_law_1534 : decode code 1534 = .ok (.iconst 1, 1) := by decide +kernel
theorem dL_law_1535 : decode code 1535 = .ok (.iadd, 1) := by decide +kernel
theorem dL_law_1536 : decode code 1536 = .ok (.iaload, 1) := by decide +kernel
theorem dL_law_1537 : decode code 1537 = .ok (.aload_n 0, 1) := by decide +kernel
theorem dL_law_1538 : decode code 1538 = .ok (.iload_n 3, 1) := by decide +kernel
theorem dL_law_1539 : decode code 1539 = .ok (.iconst 2, 1) := by decide +kernel
theorem dL_law_1540 : decode code 1540 = .ok (.iadd, 1) := by decide +kernel
theorem dL_law_1541 : decode code 1541 = .ok (.iaload, 1) := by decide +kernel
theorem dL_law_1542 : decode code 1542 = .ok (.invokevirtual 181, 3) := by decide +kernel
theorem dL_law_1545 : decode code 1545 = .ok (.lcmp, 1) := by decide +kernel
theorem dL_law_1546 : decode code 1546 = .ok (.ifCond .eq 288, 3) := by decide +kernel
theorem dL_law_1549 : decode code 1549 = .ok (.iconst 0, 1) := by decide +kernel
theorem dL_law_1550 : decode code 1550 = .ok (.ireturn, 1) := by decide +kernel
theorem dL_law_1551 : decode code 1551 = .ok (.aload_n 1, 1) := by decide +kernel
theorem dL_law_1552 : decode code 1552 = .ok (.aload_n 0, 1) := by decide +kernel
theorem dL_law_1553 : decode code 1553 = .ok (.iload_n 3, 1) := by decide +kernel
theorem dL_law_1554 : decode code 1554 = .ok (.iconst 1, 1) := by decide +kernel
theorem dL_law_1555 : decode code 1555 = .ok (.iadd, 1) := by decide +kernel
theorem dL_law_1556 : decode code 1556 = .ok (.iaload, 1) := by decide +kernel
theorem dL_law_1557 : decode code 1557 = .ok (.aload_n 0, 1) := by decide +kernel
theorem dL_law_1558 : decode code 1558 = .ok (.iload_n 3, 1) := by decide +kernel
theorem dL_law_1559 : decode code 1559 = .ok (.iconst 2, 1) := by decide +kernel
theorem dL_law_1560 : decode code 1560 = .ok (.iadd, 1) := by decide +kernel
theorem dL_law_1561 : decode code 1561 = .ok (.iaload, 1) := by decide +kernel
theorem dL_law_1562 : decode code 1562 = .ok (.invokevirtual 182, 3) := by decide +kernel
theorem dL_law_1565 : decode code 1565 = .ok (.aload_n 2, 1) := by decide +kernel
theorem dL_law_1566 : decode code 1566 = .ok (.aload_n 0, 1) := by decide +kernel
theorem dL_law_1567 : decode code 1567 = .ok (.iload_n 3, 1) := by decide +kernel
theorem dL_law_1568 : decode code 1568 = .ok (.iconst 1, 1) := by decide +kernel
theorem dL_law_1569 : decode code 1569 = .ok (.iadd, 1) := by decide +kernel
theorem dL_law_1570 : decode code 1570 = .ok (.iaload, 1) := by decide +kernel
theorem dL_law_1571 : decode code 1571 = .ok (.aload_n 0, 1) := by decide +kernel
theorem dL_law_1572 : decode code 1572 = .ok (.iload_n 3, 1) := by decide +kernel
theorem dL_law_1573 : decode code 1573 = .ok (.iconst 2, 1) := by decide +kernel
theorem dL_law_1574 : decode code 1574 = .ok (.iadd, 1) := by decide +kernel
theorem dL_law_1575 : decode code 1575 = .ok (.iaload, 1) := by decide +kernel
theorem dL_law_1576 : decode code 1576 = .ok (.invokevirtual 185, 3) := by decide +kernel
theorem dL_law_1579 : decode code 1579 = .ok (.if_icmp .eq 255, 3) := by decide +kernel
theorem dL_law_1582 : decode code 1582 = .ok (.iconst 0, 1) := by decide +kernel
theorem dL_law_1583 : decode code 1583 = .ok (.ireturn, 1) := by decide +kernel
theorem dL_law_1584 : decode code 1584 = .ok (.aload_n 1, 1) := by decide +kernel
theorem dL_law_1585 : decode code 1585 = .ok (.aload_n 0, 1) := by decide +kernel
theorem dL_law_1586 : decode code 1586 = .ok (.iload_n 3, 1) := by decide +kernel
theorem dL_law_1587 : decode code 1587 = .ok (.iconst 1, 1) := by decide +kernel
theorem dL_law_1588 : decode code 1588 = .ok (.iadd, 1) := by decide +kernel
theorem dL_law_1589 : decode code 1589 = .ok (.iaload, 1) := by decide +kernel
theorem dL_law_1590 : decode code 1590 = .ok (.aload_n 0, 1) := by decide +kernel
theorem dL_law_1591 : decode code 1591 = .ok (.iload_n 3, 1) := by decide +kernel
theorem dL_law_1592 : decode code 1592 = .ok (.iconst 2, 1) := by decide +kernel
theorem dL_law_1593 : decode code 1593 = .ok (.iadd, 1) := by decide +kernel
theorem dL_law_1594 : decode code 1594 = .ok (.iaload, 1) := by decide +kernel
theorem dL_law_1595 : decode code 1595 = .ok (.invokevirtual 186, 3) := by decide +kernel
theorem dL_law_1598 : decode code 1598 = .ok (.aload_n 2, 1) := by decide +kernel
theorem dL_law_1599 : decode code 1599 = .ok (.aload_n 0, 1) := by decide +kernel
theorem dL_law_1600 : decode code 1600 = .ok (.iload_n 3, 1) := by decide +kernel
theorem dL_law_1601 : decode code 1601 = .ok (.iconst 1, 1) := by decide +kernel
theorem dL_law_1602 : decode code 1602 = .ok (.iadd, 1) := by decide +kernel
theorem dL_law_1603 : decode code 1603 = .ok (.iaload, 1) := by decide +kernel
theorem dL_law_1604 : decode code 1604 = .ok (.aload_n 0, 1) := by decide +kernel
theorem dL_law_1605 : decode code 1605 = .ok (.iload_n 3, 1) := by decide +kernel
theorem dL_law_1606 : decode code 1606 = .ok (.iconst 2, 1) := by decide +kernel
theorem dL_law_1607 : decode code 1607 = .ok (.iadd, 1) := by decide +kernel
theorem dL_law_1608 : decode code 1608 = .ok (.iaload, 1) := by decide +kernel
theorem dL_law_1609 : decode code 1609 = .ok (.invokevirtual 189, 3) := by decide +kernel
theorem dL_law_1612 : decode code 1612 = .ok (.if_icmp .eq 222, 3) := by decide +kernel
theorem dL_law_1615 : decode code 1615 = .ok (.iconst 0, 1) := by decide +kernel
theorem dL_law_1616 : decode code 1616 = .ok (.ireturn, 1) := by decide +kernel
theorem dL_law_1617 : decode code 1617 = .ok (.aload_n 1, 1) := by decide +kernel
theorem dL_law_1618 : decode code 1618 = .ok (.aload_n 0, 1) := by decide +kernel
theorem dL_law_1619 : decode code 1619 = .ok (.iload_n 3, 1) := by decide +kernel
theorem dL_law_1620 : decode code 1620 = .ok (.iconst 1, 1) := by decide +kernel
theorem dL_law_1621 : decode code 1621 = .ok (.iadd, 1) := by decide +kernel
theorem dL_law_1622 : decode code 1622 = .ok (.iaload, 1) := by decide +kernel
theorem dL_law_1623 : decode code 1623 = .ok (.aload_n 0, 1) := by decide +kernel
theorem dL_law_1624 : decode code 1624 = .ok (.iload_n 3, 1) := by decide +kernel
theorem dL_law_1625 : decode code 1625 = .ok (.iconst 2, 1) := by decide +kernel
theorem dL_law_1626 : decode code 1626 = .ok (.iadd, 1) := by decide +kernel
theorem dL_law_1627 : decode code 1627 = .ok (.iaload, 1) := by decide +kernel
theorem dL_law_1628 : decode code 1628 = .ok (.ifCond .eq 7, 3) := by decide +kernel
theorem dL_law_1631 : decode code 1631 = .ok (.iconst 1, 1) := by decide +kernel
theorem dL_law_1632 : decode code 1632 = .ok (.goto 4, 3) := by decide +kernel
theorem dL_law_1635 : decode code 1635 = .ok (.iconst 0, 1) := by decide +kernel
theorem dL_law_1636 : decode code 1636 = .ok (.invokevirtual 190, 3) := by decide +kernel
theorem dL_law_1639 : decode code 1639 = .ok (.aload_n 2, 1) := by decide +kernel
theorem dL_law_1640 : decode code 1640 = .ok (.aload_n 0, 1) := by decide +kernel
theorem dL_law_1641 : decode code 1641 = .ok (.iload_n 3, 1) := by decide +kernel
theorem dL_law_1642 : decode code 1642 = .ok (.iconst 1, 1) := by decide +kernel
theorem dL_law_1643 : decode code 1643 = .ok (.iadd, 1) := by decide +kernel
theorem dL_law_1644 : decode code 1644 = .ok (.iaload, 1) := by decide +kernel
theorem dL_law_1645 : decode code 1645 = .ok (.aload_n 0, 1) := by decide +kernel
theorem dL_law_1646 : decode code 1646 = .ok (.iload_n 3, 1) := by decide +kernel
theorem dL_law_1647 : decode code 1647 = .ok (.iconst 2, 1) := by decide +kernel
theorem dL_law_1648 : decode code 1648 = .ok (.iadd, 1) := by decide +kernel
theorem dL_law_1649 : decode code 1649 = .ok (.iaload, 1) := by decide +kernel
theorem dL_law_1650 : decode code 1650 = .ok (.ifCond .eq 7, 3) := by decide +kernel
theorem dL_law_1653 : decode code 1653 = .ok (.iconst 1, 1) := by decide +kernel
theorem dL_law_1654 : decode code 1654 = .ok (.goto 4, 3) := by decide +kernel
theorem dL_law_1657 : decode code 1657 = .ok (.iconst 0, 1) := by decide +kernel
theorem dL_law_1658 : decode code 1658 = .ok (.invokevirtual 193, 3) := by decide +kernel
theorem dL_law_1661 : decode code 1661 = .ok (.if_icmp .eq 173, 3) := by decide +kernel
theorem dL_law_1664 : decode code 1664 = .ok (.iconst 0, 1) := by decide +kernel
theorem dL_law_1665 : decode code 1665 = .ok (.ireturn, 1) := by decide +kernel
theorem dL_law_1666 : decode code 1666 = .ok (.aload_n 1, 1) := by decide +kernel
theorem dL_law_1667 : decode code 1667 = .ok (.aload_n 0, 1) := by decide +kernel
theorem dL_law_1668 : decode code 1668 = .ok (.iload_n 3, 1) := by decide +kernel
theorem dL_law_1669 : decode code 1669 = .ok (.iconst 1, 1) := by decide +kernel
theorem dL_law_1670 : decode code 1670 = .ok (.iadd, 1) := by decide +kernel
theorem dL_law_1671 : decode code 1671 = .ok (.iaload, 1) := by decide +kernel
theorem dL_law_1672 : decode code 1672 = .ok (.invokevirtual 194, 3) := by decide +kernel
theorem dL_law_1675 : decode code 1675 = .ok (.aload_n 2, 1) := by decide +kernel
theorem dL_law_1676 : decode code 1676 = .ok (.aload_n 0, 1) := by decide +kernel
theorem dL_law_1677 : decode code 1677 = .ok (.iload_n 3, 1) := by decide +kernel
theorem dL_law_1678 : decode code 1678 = .ok (.iconst 1, 1) := by decide +kernel
theorem dL_law_1679 : decode code 1679 = .ok (.iadd, 1) := by decide +kernel
theorem dL_law_1680 : decode code 1680 = .ok (.iaload, 1) := by decide +kernel
theorem dL_law_1681 : decode code 1681 = .ok (.invokevirtual 197, 3) := by decide +kernel
theorem dL_law_1684 : decode code 1684 = .ok (.if_icmp .eq 150, 3) := by decide +kernel
theorem dL_law_1687 : decode code 1687 = .ok (.iconst 0, 1) := by decide +kernel
theorem dL_law_1688 : decode code 1688 = .ok (.ireturn, 1) := by decide +kernel
theorem dL_law_1689 : decode code 1689 = .ok (.aload_n 1, 1) := by decide +kernel
theorem dL_law_1690 : decode code 1690 = .ok (.aload_n 0, 1) := by decide +kernel
theorem dL_law_1691 : decode code 1691 = .ok (.iload_n 3, 1) := by decide +kernel
theorem dL_law_1692 : decode code 1692 = .ok (.iconst 1, 1) := by decide +kernel
theorem dL_law_1693 : decode code 1693 = .ok (.iadd, 1) := by decide +kernel
theorem dL_law_1694 : decode code 1694 = .ok (.iaload, 1) := by decide +kernel
theorem dL_law_1695 : decode code 1695 = .ok (.invokevirtual 198, 3) := by decide +kernel
theorem dL_law_1698 : decode code 1698 = .ok (.aload_n 2, 1) := by decide +kernel
theorem dL_law_1699 : decode code 1699 = .ok (.aload_n 0, 1) := by decide +kernel
theorem dL_law_1700 : decode code 1700 = .ok (.iload_n 3, 1) := by decide +kernel
theorem dL_law_1701 : decode code 1701 = .ok (.iconst 1, 1) := by decide +kernel
theorem dL_law_1702 : decode code 1702 = .ok (.iadd, 1) := by decide +kernel
theorem dL_law_1703 : decode code 1703 = .ok (.iaload, 1) := by decide +kernel
theorem dL_law_1704 : decode code 1704 = .ok (.invokevirtual 201, 3) := by decide +kernel
theorem dL_law_1707 : decode code 1707 = .ok (.if_icmp .eq 127, 3) := by decide +kernel
theorem dL_law_1710 : decode code 1710 = .ok (.iconst 0, 1) := by decide +kernel
theorem dL_law_1711 : decode code 1711 = .ok (.ireturn, 1) := by decide +kernel
theorem dL_law_1712 : decode code 1712 = .ok (.aload_n 1, 1) := by decide +kernel
theorem dL_law_1713 : decode code 1713 = .ok (.aload_n 0, 1) := by decide +kernel
theorem dL_law_1714 : decode code 1714 = .ok (.iload_n 3, 1) := by decide +kernel
theorem dL_law_1715 : decode code 1715 = .ok (.iconst 1, 1) := by decide +kernel
theorem dL_law_1716 : decode code 1716 = .ok (.iadd, 1) := by decide +kernel
theorem dL_law_1717 : decode code 1717 = .ok (.iaload, 1) := by decide +kernel
theorem dL_law_1718 : decode code 1718 = .ok (.aload_n 0, 1) := by decide +kernel
theorem dL_law_1719 : decode code 1719 = .ok (.iload_n 3, 1) := by decide +kernel
theorem dL_law_1720 : decode code 1720 = .ok (.iconst 2, 1) := by decide +kernel
theorem dL_law_1721 : decode code 1721 = .ok (.iadd, 1) := by decide +kernel
theorem dL_law_1722 : decode code 1722 = .ok (.iaload, 1) := by decide +kernel
theorem dL_law_1723 : decode code 1723 = .ok (.aload_n 0, 1) := by decide +kernel
theorem dL_law_1724 : decode code 1724 = .ok (.iload_n 3, 1) := by decide +kernel
theorem dL_law_1725 : decode code 1725 = .ok (.iconst 3, 1) := by decide +kernel
theorem dL_law_1726 : decode code 1726 = .ok (.iadd, 1) := by decide +kernel
theorem dL_law_1727 : decode code 1727 = .ok (.iaload, 1) := by decide +kernel
theorem dL_law_1728 : decode code 1728 = .ok (.aload_n 0, 1) := by decide +kernel
theorem dL_law_1729 : decode code 1729 = .ok (.iload_n 3, 1) := by decide +kernel
theorem dL_law_1730 : decode code 1730 = .ok (.iconst 4, 1) := by decide +kernel
theorem dL_law_1731 : decode code 1731 = .ok (.iadd, 1) := by decide +kernel
theorem dL_law_1732 : decode code 1732 = .ok (.iaload, 1) := by decide +kernel
theorem dL_law_1733 : decode code 1733 = .ok (.invokevirtual 202, 3) := by decide +kernel
theorem dL_law_1736 : decode code 1736 = .ok (.aload_n 2, 1) := by decide +kernel
theorem dL_law_1737 : decode code 1737 = .ok (.aload_n 0, 1) := by decide +kernel
theorem dL_law_1738 : decode code 1738 = .ok (.iload_n 3, 1) := by decide +kernel
theorem dL_law_1739 : decode code 1739 = .ok (.iconst 1, 1) := by decide +kernel
theorem dL_law_1740 : decode code 1740 = .ok (.iadd, 1) := by decide +kernel
theorem dL_law_1741 : decode code 1741 = .ok (.iaload, 1) := by decide +kernel
theorem dL_law_1742 : decode code 1742 = .ok (.aload_n 0, 1) := by decide +kernel
theorem dL_law_1743 : decode code 1743 = .ok (.iload_n 3, 1) := by decide +kernel
theorem dL_law_1744 : decode code 1744 = .ok (.iconst 2, 1) := by decide +kernel
theorem dL_law_1745 : decode code 1745 = .ok (.iadd, 1) := by decide +kernel
theorem dL_law_1746 : decode code 1746 = .ok (.iaload, 1) := by decide +kernel
theorem dL_law_1747 : decode code 1747 = .ok (.aload_n 0, 1) := by decide +kernel
theorem dL_law_1748 : decode code 1748 = .ok (.iload_n 3, 1) := by decide +kernel
theorem dL_law_1749 : decode code 1749 = .ok (.iconst 3, 1) := by decide +kernel
theorem dL_law_1750 : decode code 1750 = .ok (.iadd, 1) := by decide +kernel
theorem dL_law_1751 : decode code 1751 = .ok (.iaload, 1) := by decide +kernel
theorem dL_law_1752 : decode code 1752 = .ok (.aload_n 0, 1) := by decide +kernel
theorem dL_law_1753 : decode code 1753 = .ok (.iload_n 3, 1) := by decide +kernel
theorem dL_law_1754 : decode code 1754 = .ok (.iconst 4, 1) := by decide +kernel
theorem dL_law_1755 : decode code 1755 = .ok (.iadd, 1) := by decide +kernel
theorem dL_law_1756 : decode code 1756 = .ok (.iaload, 1) := by decide +kernel
theorem dL_law_1757 : decode code 1757 = .ok (.invokevirtual 206, 3) := by decide +kernel
theorem dL_law_1760 : decode code 1760 = .ok (.if_icmp .eq 74, 3) := by decide +kernel
theorem dL_law_1763 : decode code 1763 = .ok (.iconst 0, 1) := by decide +kernel
theorem dL_law_1764 : decode code 1764 = .ok (.ireturn, 1) := by decide +kernel
theorem dL_law_1765 : decode code 1765 = .ok (.aload_n 1, 1) := by decide +kernel
theorem dL_law_1766 : decode code 1766 = .ok (.aload_n 0, 1) := by decide +kernel
theorem dL_law_1767 : decode code 1767 = .ok (.iload_n 3, 1) := by decide +kernel
theorem dL_law_1768 : decode code 1768 = .ok (.iconst 1, 1) := by decide +kernel
theorem dL_law_1769 : decode code 1769 = .ok (.iadd, 1) := by decide +kernel
theorem dL_law_1770 : decode code 1770 = .ok (.iaload, 1) := by decide +kernel
theorem dL_law_1771 : decode code 1771 = .ok (.invokevirtual 207, 3) := by decide +kernel
theorem dL_law_1774 : decode code 1774 = .ok (.aload_n 2, 1) := by decide +kernel
theorem dL_law_1775 : decode code 1775 = .ok (.aload_n 0, 1) := by decide +kernel
theorem dL_law_1776 : decode code 1776 = .ok (.iload_n 3, 1) := by decide +kernel
theorem dL_law_1777 : decode code 1777 = .ok (.iconst 1, 1) := by decide +kernel
theorem dL_law_1778 : decode code 1778 = .ok (.iadd, 1) := by decide +kernel
theorem dL_law_1779 : decode code 1779 = .ok (.iaload, 1) := by decide +kernel
theorem dL_law_1780 : decode code 1780 = .ok (.invokevirtual 210, 3) := by decide +kernel
theorem dL_law_1783 : decode code 1783 = .ok (.if_icmp .eq 51, 3) := by decide +kernel
theorem dL_law_1786 : decode code 1786 = .ok (.iconst 0, 1) := by decide +kernel
theorem dL_law_1787 : decode code 1787 = .ok (.ireturn, 1) := by decide +kernel
theorem dL_law_1788 : decode code 1788 = .ok (.aload_n 1, 1) := by decide +kernel
theorem dL_law_1789 : decode code 1789 = .ok (.aload_n 0, 1) := by decide +kernel
theorem dL_law_1790 : decode code 1790 = .ok (.iload_n 3, 1) := by decide +kernel
theorem dL_law_1791 : decode code 1791 = .ok (.iconst 1, 1) := by decide +kernel
theorem dL_law_1792 : decode code 1792 = .ok (.iadd, 1) := by decide +kernel
theorem dL_law_1793 : decode code 1793 = .ok (.iaload, 1) := by decide +kernel
theorem dL_law_1794 : decode code 1794 = .ok (.invokevirtual 211, 3) := by decide +kernel
theorem dL_law_1797 : decode code 1797 = .ok (.aload_n 2, 1) := by decide +kernel
theorem dL_law_1798 : decode code 1798 = .ok (.aload_n 0, 1) := by decide +kernel
theorem dL_law_1799 : decode code 1799 = .ok (.iload_n 3, 1) := by decide +kernel
theorem dL_law_1800 : decode code 1800 = .ok (.iconst 1, 1) := by decide +kernel
theorem dL_law_1801 : decode code 1801 = .ok (.iadd, 1) := by decide +kernel
theorem dL_law_1802 : decode code 1802 = .ok (.iaload, 1) := by decide +kernel
theorem dL_law_1803 : decode code 1803 = .ok (.invokevirtual 214, 3) := by decide +kernel
theorem dL_law_1806 : decode code 1806 = .ok (.if_icmp .eq 28, 3) := by decide +kernel
theorem dL_law_1809 : decode code 1809 = .ok (.iconst 0, 1) := by decide +kernel
theorem dL_law_1810 : decode code 1810 = .ok (.ireturn, 1) := by decide +kernel
theorem dL_law_1811 : decode code 1811 = .ok (.aload_n 1, 1) := by decide +kernel
theorem dL_law_1812 : decode code 1812 = .ok (.aload_n 0, 1) := by decide +kernel
theorem dL_law_1813 : decode code 1813 = .ok (.iload_n 3, 1) := by decide +kernel
theorem dL_law_1814 : decode code 1814 = .ok (.iconst 1, 1) := by decide +kernel
theorem dL_law_1815 : decode code 1815 = .ok (.iadd, 1) := by decide +kernel
theorem dL_law_1816 : decode code 1816 = .ok (.iaload, 1) := by decide +kernel
theorem dL_law_1817 : decode code 1817 = .ok (.invokevirtual 215, 3) := by decide +kernel
theorem dL_law_1820 : decode code 1820 = .ok (.aload_n 2, 1) := by decide +kernel
theorem dL_law_1821 : decode code 1821 = .ok (.aload_n 0, 1) := by decide +kernel
theorem dL_law_1822 : decode code 1822 = .ok (.iload_n 3, 1) := by decide +kernel
theorem dL_law_1823 : decode code 1823 = .ok (.iconst 1, 1) := by decide +kernel
theorem dL_law_1824 : decode code 1824 = .ok (.iadd, 1) := by decide +kernel
theorem dL_law_1825 : decode code 1825 = .ok (.iaload, 1) := by decide +kernel
theorem dL_law_1826 : decode code 1826 = .ok (.invokevirtual 218, 3) := by decide +kernel
theorem dL_law_1829 : decode code 1829 = .ok (.if_icmp .eq 5, 3) := by decide +kernel
theorem dL_law_1832 : decode code 1832 = .ok (.iconst 0, 1) := by decide +kernel
theorem dL_law_1833 : decode code 1833 = .ok (.ireturn, 1) := by decide +kernel
theorem dL_law_1834 : decode code 1834 = .ok (.iinc 3 6, 3) := by decide +kernel
theorem dL_law_1837 : decode code 1837 = .ok (.goto (-1819), 3) := by decide +kernel
theorem dL_law_1840 : decode code 1840 = .ok (.iconst 1, 1) := by decide +kernel
theorem dL_law_1841 : decode code 1841 = .ok (.ireturn, 1) := by decide +kernel
def vb_L_law_1834 (k18 : Nat → Nat → Int32 → mj_M → Prop) (xs : Nat → Int32) (Ln : Nat) (l1 : Nat) (l2 : Nat) (l3 : Int32) (M : mj_M) : Prop := k18 l1 l2 (l3 + 6) M
def vb_L_law_244 (k18 : Nat → Nat → Int32 → mj_M → Prop) (xs : Nat → Int32) (Ln : Nat) (l1 : Nat) (l2 : Nat) (l3 : Int32) (M : mj_M) : Prop := vp_in (l3 + 1) Ln ∧ mj_tag M l1 = 12 ∧ vc_X11_today l1 (xs (l3 + 1 : Int32).toNatClampNeg) M (fun r3 M4 => mj_tag M4 l2 = 13 ∧ vc_X12_today l2 (xs (l3 + 1 : Int32).toNatClampNeg) M4 (fun r6 M7 => if r3 = r6 then (vb_L_law_1834 k18 xs Ln l1 l2 l3 M7) else (False)))
def vb_L_law_267 (k18 : Nat → Nat → Int32 → mj_M → Prop) (xs : Nat → Int32) (Ln : Nat) (l1 : Nat) (l2 : Nat) (l3 : Int32) (M : mj_M) : Prop := vp_in (l3 + 1) Ln ∧ vp_in (l3 + 2) Ln ∧ mj_tag M l1 = 12 ∧ vc_X11_whole l1 (xs (l3 + 1 : Int32).toNatClampNeg) (xs (l3 + 2 : Int32).toNatClampNeg) M (fun r12 M13 => mj_tag M13 l2 = 13 ∧ vc_X12_whole l2 (xs (l3 + 1 : Int32).toNatClampNeg) (xs (l3 + 2 : Int32).toNatClampNeg) M13 (fun r15 M16 => if r12 = r15 then (vb_L_law_1834 k18 xs Ln l1 l2 l3 M16) else (False)))
def vb_L_law_300 (k18 : Nat → Nat → Int32 → mj_M → Prop) (xs : Nat → Int32) (Ln : Nat) (l1 : Nat) (l2 : Nat) (l3 : Int32) (M : mj_M) : Prop := vp_in (l3 + 1) Ln ∧ vp_in (l3 + 2) Ln ∧ vp_in (l3 + 3) Ln ∧ vp_in (l3 + 4) Ln ∧ vp_in (l3 + 5) Ln ∧ mj_tag M l1 = 12 ∧ vc_X11_lease l1 (xs (l3 + 1 : Int32).toNatClampNeg) (xs (l3 + 2 : Int32).toNatClampNeg) (xs (l3 + 3 : Int32).toNatClampNeg) (xs (l3 + 4 : Int32).toNatClampNeg) (xs (l3 + 5 : Int32).toNatClampNeg) M (fun r24 M25 => mj_tag M25 l2 = 13 ∧ vc_X12_lease l2 (xs (l3 + 1 : Int32).toNatClampNeg) (xs (l3 + 2 : Int32).toNatClampNeg) (xs (l3 + 3 : Int32).toNatClampNeg) (xs (l3 + 4 : Int32).toNatClampNeg) (xs (l3 + 5 : Int32).toNatClampNeg) M25 (fun r27 M28 => if r24 = r27 then (vb_L_law_1834 k18 xs Ln l1 l2 l3 M28) else (False)))
def vb_L_law_363 (k18 : Nat → Nat → Int32 → mj_M → Prop) (xs : Nat → Int32) (Ln : Nat) (l1 : Nat) (l2 : Nat) (l3 : Int32) (M : mj_M) : Prop := vp_in (l3 + 1) Ln ∧ vp_in (l3 + 2) Ln ∧ vp_in (l3 + 3) Ln ∧ vp_in (l3 + 4) Ln ∧ vp_in (l3 + 5) Ln ∧ mj_tag M l1 = 12 ∧ vc_X11_between l1 (xs (l3 + 1 : Int32).toNatClampNeg) (xs (l3 + 2 : Int32).toNatClampNeg) (xs (l3 + 3 : Int32).toNatClampNeg) (xs (l3 + 4 : Int32).toNatClampNeg) (xs (l3 + 5 : Int32).toNatClampNeg) M (fun r36 M37 => mj_tag M37 l2 = 13 ∧ vc_X12_between l2 (xs (l3 + 1 : Int32).toNatClampNeg) (xs (l3 + 2 : Int32).toNatClampNeg) (xs (l3 + 3 : Int32).toNatClampNeg) (xs (l3 + 4 : Int32).toNatClampNeg) (xs (l3 + 5 : Int32).toNatClampNeg) M37 (fun r39 M40 => if r36 = r39 then (vb_L_law_1834 k18 xs Ln l1 l2 l3 M40) else (False)))
def vb_L_law_426 (k18 : Nat → Nat → Int32 → mj_M → Prop) (xs : Nat → Int32) (Ln : Nat) (l1 : Nat) (l2 : Nat) (l3 : Int32) (M : mj_M) : Prop := vp_in (l3 + 1) Ln ∧ vp_in (l3 + 2) Ln ∧ mj_tag M l1 = 12 ∧ vc_X11_sell l1 (xs (l3 + 1 : Int32).toNatClampNeg) (xs (l3 + 2 : Int32).toNatClampNeg) M (fun r45 M46 => mj_tag M46 l2 = 13 ∧ vc_X12_sell l2 (xs (l3 + 1 : Int32).toNatClampNeg) (xs (l3 + 2 : Int32).toNatClampNeg) M46 (fun r48 M49 => if r45 = r48 then (vb_L_law_1834 k18 xs Ln l1 l2 l3 M49) else (False)))
def vb_L_law_459 (k18 : Nat → Nat → Int32 → mj_M → Prop) (xs : Nat → Int32) (Ln : Nat) (l1 : Nat) (l2 : Nat) (l3 : Int32) (M : mj_M) : Prop := vp_in (l3 + 1) Ln ∧ vp_in (l3 + 2) Ln ∧ vp_in (l3 + 3) Ln ∧ mj_tag M l1 = 12 ∧ vc_X11_part l1 (xs (l3 + 1 : Int32).toNatClampNeg) (xs (l3 + 2 : Int32).toNatClampNeg) (xs (l3 + 3 : Int32).toNatClampNeg) M (fun r55 M56 => mj_tag M56 l2 = 13 ∧ vc_X12_part l2 (xs (l3 + 1 : Int32).toNatClampNeg) (xs (l3 + 2 : Int32).toNatClampNeg) (xs (l3 + 3 : Int32).toNatClampNeg) M56 (fun r58 M59 => if r55 = r58 then (vb_L_law_1834 k18 xs Ln l1 l2 l3 M59) else (False)))
def vb_L_law_502 (k18 : Nat → Nat → Int32 → mj_M → Prop) (xs : Nat → Int32) (Ln : Nat) (l1 : Nat) (l2 : Nat) (l3 : Int32) (M : mj_M) : Prop := vp_in (l3 + 1) Ln ∧ vp_in (l3 + 2) Ln ∧ mj_tag M l1 = 12 ∧ vc_X11_end l1 (xs (l3 + 1 : Int32).toNatClampNeg) (xs (l3 + 2 : Int32).toNatClampNeg) M (fun r64 M65 => mj_tag M65 l2 = 13 ∧ vc_X12_end l2 (xs (l3 + 1 : Int32).toNatClampNeg) (xs (l3 + 2 : Int32).toNatClampNeg) M65 (fun r67 M68 => if r64 = r67 then (vb_L_law_1834 k18 xs Ln l1 l2 l3 M68) else (False)))
def vb_L_law_535 (k18 : Nat → Nat → Int32 → mj_M → Prop) (xs : Nat → Int32) (Ln : Nat) (l1 : Nat) (l2 : Nat) (l3 : Int32) (M : mj_M) : Prop := vp_in (l3 + 1) Ln ∧ vp_in (l3 + 2) Ln ∧ mj_tag M l1 = 12 ∧ vc_X11_about l1 (xs (l3 + 1 : Int32).toNatClampNeg) (xs (l3 + 2 : Int32).toNatClampNeg) M (fun r73 M74 => mj_tag M74 l2 = 13 ∧ vc_X12_about l2 (xs (l3 + 1 : Int32).toNatClampNeg) (xs (l3 + 2 : Int32).toNatClampNeg) M74 (fun r76 M77 => if r73 = r76 then (vb_L_law_1834 k18 xs Ln l1 l2 l3 M77) else (False)))
def vb_L_law_568 (k18 : Nat → Nat → Int32 → mj_M → Prop) (xs : Nat → Int32) (Ln : Nat) (l1 : Nat) (l2 : Nat) (l3 : Int32) (M : mj_M) : Prop := vp_in (l3 + 1) Ln ∧ vp_in (l3 + 2) Ln ∧ mj_tag M l1 = 12 ∧ vc_X11_chain l1 (xs (l3 + 1 : Int32).toNatClampNeg) (xs (l3 + 2 : Int32).toNatClampNeg) M (fun r82 M83 => mj_tag M83 l2 = 13 ∧ vc_X12_chain l2 (xs (l3 + 1 : Int32).toNatClampNeg) (xs (l3 + 2 : Int32).toNatClampNeg) M83 (fun r85 M86 => if r82 = r85 then (vb_L_law_1834 k18 xs Ln l1 l2 l3 M86) else (False)))
def vb_L_law_601 (k18 : Nat → Nat → Int32 → mj_M → Prop) (xs : Nat → Int32) (Ln : Nat) (l1 : Nat) (l2 : Nat) (l3 : Int32) (M : mj_M) : Prop := vp_in (l3 + 1) Ln ∧ vp_in (l3 + 2) Ln ∧ mj_tag M l1 = 12 ∧ vc_X11_live l1 (xs (l3 + 1 : Int32).toNatClampNeg) (xs (l3 + 2 : Int32).toNatClampNeg) M (fun r91 M92 => mj_tag M92 l2 = 13 ∧ vc_X12_live l2 (xs (l3 + 1 : Int32).toNatClampNeg) (xs (l3 + 2 : Int32).toNatClampNeg) M92 (fun r94 M95 => if r91 = r94 then (vb_L_law_1834 k18 xs Ln l1 l2 l3 M95) else (False)))
def vb_L_law_634 (k18 : Nat → Nat → Int32 → mj_M → Prop) (xs : Nat → Int32) (Ln : Nat) (l1 : Nat) (l2 : Nat) (l3 : Int32) (M : mj_M) : Prop := vp_in (l3 + 1) Ln ∧ vp_in (l3 + 2) Ln ∧ vp_in (l3 + 3) Ln ∧ mj_tag M l1 = 12 ∧ vc_X11_rent l1 (xs (l3 + 1 : Int32).toNatClampNeg) (xs (l3 + 2 : Int32).toNatClampNeg) (xs (l3 + 3 : Int32).toNatClampNeg) M (fun r101 M102 => mj_tag M102 l2 = 13 ∧ vc_X12_rent l2 (xs (l3 + 1 : Int32).toNatClampNeg) (xs (l3 + 2 : Int32).toNatClampNeg) (xs (l3 + 3 : Int32).toNatClampNeg) M102 (fun r104 M105 => if r101 = r104 then (vb_L_law_1834 k18 xs Ln l1 l2 l3 M105) else (False)))
def vb_L_law_677 (k18 : Nat → Nat → Int32 → mj_M → Prop) (xs : Nat → Int32) (Ln : Nat) (l1 : Nat) (l2 : Nat) (l3 : Int32) (M : mj_M) : Prop := vp_in (l3 + 1) Ln ∧ vp_in (l3 + 2) Ln ∧ mj_tag M l1 = 12 ∧ vc_X11_rate l1 (xs (l3 + 1 : Int32).toNatClampNeg) (xs (l3 + 2 : Int32).toNatClampNeg) M (fun r110 M111 => mj_tag M111 l2 = 13 ∧ vc_X12_rate l2 (xs (l3 + 1 : Int32).toNatClampNeg) (xs (l3 + 2 : Int32).toNatClampNeg) M111 (fun r113 M114 => if r110 = r113 then (vb_L_law_1834 k18 xs Ln l1 l2 l3 M114) else (False)))
def vb_L_law_710 (k18 : Nat → Nat → Int32 → mj_M → Prop) (xs : Nat → Int32) (Ln : Nat) (l1 : Nat) (l2 : Nat) (l3 : Int32) (M : mj_M) : Prop := vp_in (l3 + 1) Ln ∧ vp_in (l3 + 2) Ln ∧ vp_in (l3 + 3) Ln ∧ mj_tag M l1 = 12 ∧ vc_X11_owed l1 (xs (l3 + 1 : Int32).toNatClampNeg) (xs (l3 + 2 : Int32).toNatClampNeg) (xs (l3 + 3 : Int32).toNatClampNeg) M (fun r120 M121 => mj_tag M121 l2 = 13 ∧ vc_X12_owed l2 (xs (l3 + 1 : Int32).toNatClampNeg) (xs (l3 + 2 : Int32).toNatClampNeg) (xs (l3 + 3 : Int32).toNatClampNeg) M121 (fun r123 M124 => if (lg_cmp r120 r123) = 0 then (vb_L_law_1834 k18 xs Ln l1 l2 l3 M124) else (False)))
def vb_L_law_754 (k18 : Nat → Nat → Int32 → mj_M → Prop) (xs : Nat → Int32) (Ln : Nat) (l1 : Nat) (l2 : Nat) (l3 : Int32) (M : mj_M) : Prop := vp_in (l3 + 1) Ln ∧ vp_in (l3 + 2) Ln ∧ mj_tag M l1 = 12 ∧ vc_X11_weight l1 (xs (l3 + 1 : Int32).toNatClampNeg) (xs (l3 + 2 : Int32).toNatClampNeg) M (fun r129 M130 => mj_tag M130 l2 = 13 ∧ vc_X12_weight l2 (xs (l3 + 1 : Int32).toNatClampNeg) (xs (l3 + 2 : Int32).toNatClampNeg) M130 (fun r132 M133 => if r129 = r132 then (vb_L_law_1834 k18 xs Ln l1 l2 l3 M133) else (False)))
def vb_L_law_787 (k18 : Nat → Nat → Int32 → mj_M → Prop) (xs : Nat → Int32) (Ln : Nat) (l1 : Nat) (l2 : Nat) (l3 : Int32) (M : mj_M) : Prop := vp_in (l3 + 1) Ln ∧ mj_tag M l1 = 12 ∧ vc_X11_say l1 (xs (l3 + 1 : Int32).toNatClampNeg) M (fun r137 M138 => mj_tag M138 l2 = 13 ∧ vc_X12_say l2 (xs (l3 + 1 : Int32).toNatClampNeg) M138 (fun r140 M141 => if r137 = r140 then (vb_L_law_1834 k18 xs Ln l1 l2 l3 M141) else (False)))
def vb_L_law_810 (k18 : Nat → Nat → Int32 → mj_M → Prop) (xs : Nat → Int32) (Ln : Nat) (l1 : Nat) (l2 : Nat) (l3 : Int32) (M : mj_M) : Prop := mj_tag M l1 = 12 ∧ vc_X11_wipe l1 M (fun r144 M145 => mj_tag M145 l2 = 13 ∧ vc_X12_wipe l2 M145 (fun r147 M148 => if r144 = r147 then (vb_L_law_1834 k18 xs Ln l1 l2 l3 M148) else (False)))
def vb_L_law_823 (k18 : Nat → Nat → Int32 → mj_M → Prop) (xs : Nat → Int32) (Ln : Nat) (l1 : Nat) (l2 : Nat) (l3 : Int32) (M : mj_M) : Prop := mj_tag M l1 = 12 ∧ vc_X11_fault l1 M (fun r151 M152 => mj_tag M152 l2 = 13 ∧ vc_X12_fault l2 M152 (fun r154 M155 => if r151 = r154 then (vb_L_law_1834 k18 xs Ln l1 l2 l3 M155) else (False)))
def vb_L_law_836 (k18 : Nat → Nat → Int32 → mj_M → Prop) (xs : Nat → Int32) (Ln : Nat) (l1 : Nat) (l2 : Nat) (l3 : Int32) (M : mj_M) : Prop := vp_in (l3 + 1) Ln ∧ vp_in (l3 + 2) Ln ∧ mj_tag M l1 = 12 ∧ vc_X11_act l1 (xs (l3 + 1 : Int32).toNatClampNeg) (xs (l3 + 2 : Int32).toNatClampNeg) M (fun r160 M161 => mj_tag M161 l2 = 13 ∧ vc_X12_act l2 (xs (l3 + 1 : Int32).toNatClampNeg) (xs (l3 + 2 : Int32).toNatClampNeg) M161 (fun r163 M164 => if r160 = r163 then (vb_L_law_1834 k18 xs Ln l1 l2 l3 M164) else (False)))
def vb_L_law_869 (k18 : Nat → Nat → Int32 → mj_M → Prop) (xs : Nat → Int32) (Ln : Nat) (l1 : Nat) (l2 : Nat) (l3 : Int32) (M : mj_M) : Prop := vp_in (l3 + 1) Ln ∧ vp_in (l3 + 2) Ln ∧ mj_tag M l1 = 12 ∧ vc_X11_right l1 (xs (l3 + 1 : Int32).toNatClampNeg) (xs (l3 + 2 : Int32).toNatClampNeg) M (fun r169 M170 => mj_tag M170 l2 = 13 ∧ vc_X12_right l2 (xs (l3 + 1 : Int32).toNatClampNeg) (xs (l3 + 2 : Int32).toNatClampNeg) M170 (fun r172 M173 => if r169 = r172 then (vb_L_law_1834 k18 xs Ln l1 l2 l3 M173) else (False)))
def vb_L_law_902 (k18 : Nat → Nat → Int32 → mj_M → Prop) (xs : Nat → Int32) (Ln : Nat) (l1 : Nat) (l2 : Nat) (l3 : Int32) (M : mj_M) : Prop := vp_in (l3 + 1) Ln ∧ vp_in (l3 + 2) Ln ∧ mj_tag M l1 = 12 ∧ vc_X11_decisive l1 (xs (l3 + 1 : Int32).toNatClampNeg) (xs (l3 + 2 : Int32).toNatClampNeg) M (fun r178 M179 => mj_tag M179 l2 = 13 ∧ vc_X12_decisive l2 (xs (l3 + 1 : Int32).toNatClampNeg) (xs (l3 + 2 : Int32).toNatClampNeg) M179 (fun r181 M182 => if r178 = r181 then (vb_L_law_1834 k18 xs Ln l1 l2 l3 M182) else (False)))
def vb_L_law_935 (k18 : Nat → Nat → Int32 → mj_M → Prop) (xs : Nat → Int32) (Ln : Nat) (l1 : Nat) (l2 : Nat) (l3 : Int32) (M : mj_M) : Prop := vp_in (l3 + 1) Ln ∧ vp_in (l3 + 2) Ln ∧ mj_tag M l1 = 12 ∧ vc_X11_fact l1 (xs (l3 + 1 : Int32).toNatClampNeg) (xs (l3 + 2 : Int32).toNatClampNeg) M (fun r187 M188 => mj_tag M188 l2 = 13 ∧ vc_X12_fact l2 (xs (l3 + 1 : Int32).toNatClampNeg) (xs (l3 + 2 : Int32).toNatClampNeg) M188 (fun r190 M191 => if r187 = r190 then (vb_L_law_1834 k18 xs Ln l1 l2 l3 M191) else (False)))
def vb_L_law_968 (k18 : Nat → Nat → Int32 → mj_M → Prop) (xs : Nat → Int32) (Ln : Nat) (l1 : Nat) (l2 : Nat) (l3 : Int32) (M : mj_M) : Prop := vp_in (l3 + 1) Ln ∧ vp_in (l3 + 2) Ln ∧ mj_tag M l1 = 12 ∧ vc_X11_first l1 (xs (l3 + 1 : Int32).toNatClampNeg) (xs (l3 + 2 : Int32).toNatClampNeg) M (fun r196 M197 => mj_tag M197 l2 = 13 ∧ vc_X12_first l2 (xs (l3 + 1 : Int32).toNatClampNeg) (xs (l3 + 2 : Int32).toNatClampNeg) M197 (fun r199 M200 => if r196 = r199 then (vb_L_law_1834 k18 xs Ln l1 l2 l3 M200) else (False)))
def vb_L_law_1001 (k18 : Nat → Nat → Int32 → mj_M → Prop) (xs : Nat → Int32) (Ln : Nat) (l1 : Nat) (l2 : Nat) (l3 : Int32) (M : mj_M) : Prop := vp_in (l3 + 1) Ln ∧ vp_in (l3 + 2) Ln ∧ mj_tag M l1 = 12 ∧ vc_X11_notice l1 (xs (l3 + 1 : Int32).toNatClampNeg) (xs (l3 + 2 : Int32).toNatClampNeg) M (fun r205 M206 => mj_tag M206 l2 = 13 ∧ vc_X12_notice l2 (xs (l3 + 1 : Int32).toNatClampNeg) (xs (l3 + 2 : Int32).toNatClampNeg) M206 (fun r208 M209 => if r205 = r208 then (vb_L_law_1834 k18 xs Ln l1 l2 l3 M209) else (False)))
def vb_L_law_1075 (k18 : Nat → Nat → Int32 → mj_M → Prop) (xs : Nat → Int32) (Ln : Nat) (l1 : Nat) (l2 : Nat) (l3 : Int32) (s0 : Int32) (s1 : Nat) (s2 : Int32) (s3 : Bool) (M : mj_M) : Prop := mj_tag M s1 = 13 ∧ vc_X12_answer s1 s2 s3 M (fun r212 M213 => if s0 = r212 then (vb_L_law_1834 k18 xs Ln l1 l2 l3 M213) else (False))
def vb_L_law_1053 (k18 : Nat → Nat → Int32 → mj_M → Prop) (xs : Nat → Int32) (Ln : Nat) (l1 : Nat) (l2 : Nat) (l3 : Int32) (s0 : Nat) (s1 : Int32) (s2 : Bool) (M : mj_M) : Prop := mj_tag M s0 = 12 ∧ vc_X11_answer s0 s1 s2 M (fun r216 M217 => vp_in (l3 + 1) Ln ∧ vp_in (l3 + 2) Ln ∧ if (xs (l3 + 2 : Int32).toNatClampNeg) = 0 then (vb_L_law_1075 k18 xs Ln l1 l2 l3 r216 l2 (xs (l3 + 1 : Int32).toNatClampNeg) false M217) else (vb_L_law_1075 k18 xs Ln l1 l2 l3 r216 l2 (xs (l3 + 1 : Int32).toNatClampNeg) true M217))
def vb_L_law_1034 (k18 : Nat → Nat → Int32 → mj_M → Prop) (xs : Nat → Int32) (Ln : Nat) (l1 : Nat) (l2 : Nat) (l3 : Int32) (M : mj_M) : Prop := vp_in (l3 + 1) Ln ∧ vp_in (l3 + 2) Ln ∧ if (xs (l3 + 2 : Int32).toNatClampNeg) = 0 then (vb_L_law_1053 k18 xs Ln l1 l2 l3 l1 (xs (l3 + 1 : Int32).toNatClampNeg) false M) else (vb_L_law_1053 k18 xs Ln l1 l2 l3 l1 (xs (l3 + 1 : Int32).toNatClampNeg) true M)
def vb_L_law_1083 (k18 : Nat → Nat → Int32 → mj_M → Prop) (xs : Nat → Int32) (Ln : Nat) (l1 : Nat) (l2 : Nat) (l3 : Int32) (M : mj_M) : Prop := vp_in (l3 + 1) Ln ∧ mj_tag M l1 = 12 ∧ vc_X11_withdraw l1 (xs (l3 + 1 : Int32).toNatClampNeg) M (fun r226 M227 => mj_tag M227 l2 = 13 ∧ vc_X12_withdraw l2 (xs (l3 + 1 : Int32).toNatClampNeg) M227 (fun r229 M230 => if r226 = r229 then (vb_L_law_1834 k18 xs Ln l1 l2 l3 M230) else (False)))
def vb_L_law_1147 (k18 : Nat → Nat → Int32 → mj_M → Prop) (xs : Nat → Int32) (Ln : Nat) (l1 : Nat) (l2 : Nat) (l3 : Int32) (s0 : Int32) (s1 : Nat) (s2 : Int32) (s3 : Bool) (M : mj_M) : Prop := mj_tag M s1 = 13 ∧ vc_X12_tribunal s1 s2 s3 M (fun r233 M234 => if s0 = r233 then (vb_L_law_1834 k18 xs Ln l1 l2 l3 M234) else (False))
def vb_L_law_1125 (k18 : Nat → Nat → Int32 → mj_M → Prop) (xs : Nat → Int32) (Ln : Nat) (l1 : Nat) (l2 : Nat) (l3 : Int32) (s0 : Nat) (s1 : Int32) (s2 : Bool) (M : mj_M) : Prop := mj_tag M s0 = 12 ∧ vc_X11_tribunal s0 s1 s2 M (fun r237 M238 => vp_in (l3 + 1) Ln ∧ vp_in (l3 + 2) Ln ∧ if (xs (l3 + 2 : Int32).toNatClampNeg) = 0 then (vb_L_law_1147 k18 xs Ln l1 l2 l3 r237 l2 (xs (l3 + 1 : Int32).toNatClampNeg) false M238) else (vb_L_law_1147 k18 xs Ln l1 l2 l3 r237 l2 (xs (l3 + 1 : Int32).toNatClampNeg) true M238))
def vb_L_law_1106 (k18 : Nat → Nat → Int32 → mj_M → Prop) (xs : Nat → Int32) (Ln : Nat) (l1 : Nat) (l2 : Nat) (l3 : Int32) (M : mj_M) : Prop := vp_in (l3 + 1) Ln ∧ vp_in (l3 + 2) Ln ∧ if (xs (l3 + 2 : Int32).toNatClampNeg) = 0 then (vb_L_law_1125 k18 xs Ln l1 l2 l3 l1 (xs (l3 + 1 : Int32).toNatClampNeg) false M) else (vb_L_law_1125 k18 xs Ln l1 l2 l3 l1 (xs (l3 + 1 : Int32).toNatClampNeg) true M)
def vb_L_law_1155 (k18 : Nat → Nat → Int32 → mj_M → Prop) (xs : Nat → Int32) (Ln : Nat) (l1 : Nat) (l2 : Nat) (l3 : Int32) (M : mj_M) : Prop := vp_in (l3 + 1) Ln ∧ mj_tag M l1 = 12 ∧ vc_X11_status l1 (xs (l3 + 1 : Int32).toNatClampNeg) M (fun r247 M248 => mj_tag M248 l2 = 13 ∧ vc_X12_status l2 (xs (l3 + 1 : Int32).toNatClampNeg) M248 (fun r250 M251 => if r247 = r250 then (vb_L_law_1834 k18 xs Ln l1 l2 l3 M251) else (False)))
def vb_L_law_1178 (k18 : Nat → Nat → Int32 → mj_M → Prop) (xs : Nat → Int32) (Ln : Nat) (l1 : Nat) (l2 : Nat) (l3 : Int32) (M : mj_M) : Prop := vp_in (l3 + 1) Ln ∧ mj_tag M l1 = 12 ∧ vc_X11_carry l1 (xs (l3 + 1 : Int32).toNatClampNeg) M (fun r255 M256 => mj_tag M256 l2 = 13 ∧ vc_X12_carry l2 (xs (l3 + 1 : Int32).toNatClampNeg) M256 (fun r258 M259 => if r255 = r258 then (vb_L_law_1834 k18 xs Ln l1 l2 l3 M259) else (False)))
def vb_L_law_1201 (k18 : Nat → Nat → Int32 → mj_M → Prop) (xs : Nat → Int32) (Ln : Nat) (l1 : Nat) (l2 : Nat) (l3 : Int32) (M : mj_M) : Prop := vp_in (l3 + 1) Ln ∧ mj_tag M l1 = 12 ∧ vc_X11_stay l1 (xs (l3 + 1 : Int32).toNatClampNeg) M (fun r263 M264 => mj_tag M264 l2 = 13 ∧ vc_X12_stay l2 (xs (l3 + 1 : Int32).toNatClampNeg) M264 (fun r266 M267 => if r263 = r266 then (vb_L_law_1834 k18 xs Ln l1 l2 l3 M267) else (False)))
def vb_L_law_1224 (k18 : Nat → Nat → Int32 → mj_M → Prop) (xs : Nat → Int32) (Ln : Nat) (l1 : Nat) (l2 : Nat) (l3 : Int32) (M : mj_M) : Prop := vp_in (l3 + 1) Ln ∧ vp_in (l3 + 2) Ln ∧ mj_tag M l1 = 12 ∧ vc_X11_value l1 (xs (l3 + 1 : Int32).toNatClampNeg) (xs (l3 + 2 : Int32).toNatClampNeg) M (fun r272 M273 => mj_tag M273 l2 = 13 ∧ vc_X12_value l2 (xs (l3 + 1 : Int32).toNatClampNeg) (xs (l3 + 2 : Int32).toNatClampNeg) M273 (fun r275 M276 => if r272 = r275 then (vb_L_law_1834 k18 xs Ln l1 l2 l3 M276) else (False)))
def vb_L_law_1257 (k18 : Nat → Nat → Int32 → mj_M → Prop) (xs : Nat → Int32) (Ln : Nat) (l1 : Nat) (l2 : Nat) (l3 : Int32) (M : mj_M) : Prop := vp_in (l3 + 1) Ln ∧ vp_in (l3 + 2) Ln ∧ mj_tag M l1 = 12 ∧ vc_X11_point l1 (xs (l3 + 1 : Int32).toNatClampNeg) (xs (l3 + 2 : Int32).toNatClampNeg) M (fun r281 M282 => mj_tag M282 l2 = 13 ∧ vc_X12_point l2 (xs (l3 + 1 : Int32).toNatClampNeg) (xs (l3 + 2 : Int32).toNatClampNeg) M282 (fun r284 M285 => if r281 = r284 then (vb_L_law_1834 k18 xs Ln l1 l2 l3 M285) else (False)))
def vb_L_law_1290 (k18 : Nat → Nat → Int32 → mj_M → Prop) (xs : Nat → Int32) (Ln : Nat) (l1 : Nat) (l2 : Nat) (l3 : Int32) (M : mj_M) : Prop := mj_tag M l1 = 12 ∧ vc_X11_blank l1 M (fun r288 M289 => mj_tag M289 l2 = 13 ∧ vc_X12_blank l2 M289 (fun r291 M292 => if r288 = r291 then (vb_L_law_1834 k18 xs Ln l1 l2 l3 M292) else (False)))
def vb_L_law_1303 (k18 : Nat → Nat → Int32 → mj_M → Prop) (xs : Nat → Int32) (Ln : Nat) (l1 : Nat) (l2 : Nat) (l3 : Int32) (M : mj_M) : Prop := vp_in (l3 + 1) Ln ∧ mj_tag M l1 = 12 ∧ vc_X11_table l1 (xs (l3 + 1 : Int32).toNatClampNeg) M (fun r296 M297 => mj_tag M297 l2 = 13 ∧ vc_X12_table l2 (xs (l3 + 1 : Int32).toNatClampNeg) M297 (fun r299 M300 => if r296 = r299 then (vb_L_law_1834 k18 xs Ln l1 l2 l3 M300) else (False)))
def vb_L_law_1326 (k18 : Nat → Nat → Int32 → mj_M → Prop) (xs : Nat → Int32) (Ln : Nat) (l1 : Nat) (l2 : Nat) (l3 : Int32) (M : mj_M) : Prop := vp_in (l3 + 1) Ln ∧ mj_tag M l1 = 12 ∧ vc_X11_worth l1 (xs (l3 + 1 : Int32).toNatClampNeg) M (fun r304 M305 => mj_tag M305 l2 = 13 ∧ vc_X12_worth l2 (xs (l3 + 1 : Int32).toNatClampNeg) M305 (fun r307 M308 => if r304 = r307 then (vb_L_law_1834 k18 xs Ln l1 l2 l3 M308) else (False)))
def vb_L_law_1349 (k18 : Nat → Nat → Int32 → mj_M → Prop) (xs : Nat → Int32) (Ln : Nat) (l1 : Nat) (l2 : Nat) (l3 : Int32) (M : mj_M) : Prop := vp_in (l3 + 1) Ln ∧ vp_in (l3 + 2) Ln ∧ mj_tag M l1 = 12 ∧ vc_X11_sale l1 (xs (l3 + 1 : Int32).toNatClampNeg) (xs (l3 + 2 : Int32).toNatClampNeg) M (fun r313 M314 => mj_tag M314 l2 = 13 ∧ vc_X12_sale l2 (xs (l3 + 1 : Int32).toNatClampNeg) (xs (l3 + 2 : Int32).toNatClampNeg) M314 (fun r316 M317 => if r313 = r316 then (vb_L_law_1834 k18 xs Ln l1 l2 l3 M317) else (False)))
def vb_L_law_1382 (k18 : Nat → Nat → Int32 → mj_M → Prop) (xs : Nat → Int32) (Ln : Nat) (l1 : Nat) (l2 : Nat) (l3 : Int32) (M : mj_M) : Prop := vp_in (l3 + 1) Ln ∧ vp_in (l3 + 2) Ln ∧ vp_in (l3 + 3) Ln ∧ mj_tag M l1 = 12 ∧ vc_X11_learned l1 (xs (l3 + 1 : Int32).toNatClampNeg) (xs (l3 + 2 : Int32).toNatClampNeg) (xs (l3 + 3 : Int32).toNatClampNeg) M (fun r323 M324 => mj_tag M324 l2 = 13 ∧ vc_X12_learned l2 (xs (l3 + 1 : Int32).toNatClampNeg) (xs (l3 + 2 : Int32).toNatClampNeg) (xs (l3 + 3 : Int32).toNatClampNeg) M324 (fun r326 M327 => if (lg_cmp r323 r326) = 0 then (vb_L_law_1834 k18 xs Ln l1 l2 l3 M327) else (False)))
def vb_L_law_1426 (k18 : Nat → Nat → Int32 → mj_M → Prop) (xs : Nat → Int32) (Ln : Nat) (l1 : Nat) (l2 : Nat) (l3 : Int32) (M : mj_M) : Prop := vp_in (l3 + 1) Ln ∧ mj_tag M l1 = 12 ∧ vc_X11_doubt l1 (xs (l3 + 1 : Int32).toNatClampNeg) M (fun r331 M332 => mj_tag M332 l2 = 13 ∧ vc_X12_doubt l2 (xs (l3 + 1 : Int32).toNatClampNeg) M332 (fun r334 M335 => if (lg_cmp r331 r334) = 0 then (vb_L_law_1834 k18 xs Ln l1 l2 l3 M335) else (False)))
def vb_L_law_1450 (k18 : Nat → Nat → Int32 → mj_M → Prop) (xs : Nat → Int32) (Ln : Nat) (l1 : Nat) (l2 : Nat) (l3 : Int32) (M : mj_M) : Prop := vp_in (l3 + 1) Ln ∧ vp_in (l3 + 2) Ln ∧ mj_tag M l1 = 12 ∧ vc_X11_set l1 (xs (l3 + 1 : Int32).toNatClampNeg) (xs (l3 + 2 : Int32).toNatClampNeg) M (fun r340 M341 => mj_tag M341 l2 = 13 ∧ vc_X12_set l2 (xs (l3 + 1 : Int32).toNatClampNeg) (xs (l3 + 2 : Int32).toNatClampNeg) M341 (fun r343 M344 => if r340 = r343 then (vb_L_law_1834 k18 xs Ln l1 l2 l3 M344) else (False)))
def vb_L_law_1483 (k18 : Nat → Nat → Int32 → mj_M → Prop) (xs : Nat → Int32) (Ln : Nat) (l1 : Nat) (l2 : Nat) (l3 : Int32) (M : mj_M) : Prop := vp_in (l3 + 1) Ln ∧ vp_in (l3 + 2) Ln ∧ mj_tag M l1 = 12 ∧ vc_X11_price l1 (xs (l3 + 1 : Int32).toNatClampNeg) (xs (l3 + 2 : Int32).toNatClampNeg) M (fun r349 M350 => mj_tag M350 l2 = 13 ∧ vc_X12_price l2 (xs (l3 + 1 : Int32).toNatClampNeg) (xs (l3 + 2 : Int32).toNatClampNeg) M350 (fun r352 M353 => if (lg_cmp r349 r352) = 0 then (vb_L_law_1834 k18 xs Ln l1 l2 l3 M353) else (False)))
def vb_L_law_1517 (k18 : Nat → Nat → Int32 → mj_M → Prop) (xs : Nat → Int32) (Ln : Nat) (l1 : Nat) (l2 : Nat) (l3 : Int32) (M : mj_M) : Prop := vp_in (l3 + 1) Ln ∧ vp_in (l3 + 2) Ln ∧ mj_tag M l1 = 12 ∧ vc_X11_share l1 (xs (l3 + 1 : Int32).toNatClampNeg) (xs (l3 + 2 : Int32).toNatClampNeg) M (fun r358 M359 => mj_tag M359 l2 = 13 ∧ vc_X12_share l2 (xs (l3 + 1 : Int32).toNatClampNeg) (xs (l3 + 2 : Int32).toNatClampNeg) M359 (fun r361 M362 => if (lg_cmp r358 r361) = 0 then (vb_L_law_1834 k18 xs Ln l1 l2 l3 M362) else (False)))
def vb_L_law_1551 (k18 : Nat → Nat → Int32 → mj_M → Prop) (xs : Nat → Int32) (Ln : Nat) (l1 : Nat) (l2 : Nat) (l3 : Int32) (M : mj_M) : Prop := vp_in (l3 + 1) Ln ∧ vp_in (l3 + 2) Ln ∧ mj_tag M l1 = 12 ∧ vc_X11_may l1 (xs (l3 + 1 : Int32).toNatClampNeg) (xs (l3 + 2 : Int32).toNatClampNeg) M (fun r367 M368 => mj_tag M368 l2 = 13 ∧ vc_X12_may l2 (xs (l3 + 1 : Int32).toNatClampNeg) (xs (l3 + 2 : Int32).toNatClampNeg) M368 (fun r370 M371 => if r367 = r370 then (vb_L_law_1834 k18 xs Ln l1 l2 l3 M371) else (False)))
def vb_L_law_1584 (k18 : Nat → Nat → Int32 → mj_M → Prop) (xs : Nat → Int32) (Ln : Nat) (l1 : Nat) (l2 : Nat) (l3 : Int32) (M : mj_M) : Prop := vp_in (l3 + 1) Ln ∧ vp_in (l3 + 2) Ln ∧ mj_tag M l1 = 12 ∧ vc_X11_more l1 (xs (l3 + 1 : Int32).toNatClampNeg) (xs (l3 + 2 : Int32).toNatClampNeg) M (fun r376 M377 => mj_tag M377 l2 = 13 ∧ vc_X12_more l2 (xs (l3 + 1 : Int32).toNatClampNeg) (xs (l3 + 2 : Int32).toNatClampNeg) M377 (fun r379 M380 => if r376 = r379 then (vb_L_law_1834 k18 xs Ln l1 l2 l3 M380) else (False)))
def vb_L_law_1658 (k18 : Nat → Nat → Int32 → mj_M → Prop) (xs : Nat → Int32) (Ln : Nat) (l1 : Nat) (l2 : Nat) (l3 : Int32) (s0 : Int32) (s1 : Nat) (s2 : Int32) (s3 : Bool) (M : mj_M) : Prop := mj_tag M s1 = 13 ∧ vc_X12_breach s1 s2 s3 M (fun r383 M384 => if s0 = r383 then (vb_L_law_1834 k18 xs Ln l1 l2 l3 M384) else (False))
def vb_L_law_1636 (k18 : Nat → Nat → Int32 → mj_M → Prop) (xs : Nat → Int32) (Ln : Nat) (l1 : Nat) (l2 : Nat) (l3 : Int32) (s0 : Nat) (s1 : Int32) (s2 : Bool) (M : mj_M) : Prop := mj_tag M s0 = 12 ∧ vc_X11_breach s0 s1 s2 M (fun r387 M388 => vp_in (l3 + 1) Ln ∧ vp_in (l3 + 2) Ln ∧ if (xs (l3 + 2 : Int32).toNatClampNeg) = 0 then (vb_L_law_1658 k18 xs Ln l1 l2 l3 r387 l2 (xs (l3 + 1 : Int32).toNatClampNeg) false M388) else (vb_L_law_1658 k18 xs Ln l1 l2 l3 r387 l2 (xs (l3 + 1 : Int32).toNatClampNeg) true M388))
def vb_L_law_1617 (k18 : Nat → Nat → Int32 → mj_M → Prop) (xs : Nat → Int32) (Ln : Nat) (l1 : Nat) (l2 : Nat) (l3 : Int32) (M : mj_M) : Prop := vp_in (l3 + 1) Ln ∧ vp_in (l3 + 2) Ln ∧ if (xs (l3 + 2 : Int32).toNatClampNeg) = 0 then (vb_L_law_1636 k18 xs Ln l1 l2 l3 l1 (xs (l3 + 1 : Int32).toNatClampNeg) false M) else (vb_L_law_1636 k18 xs Ln l1 l2 l3 l1 (xs (l3 + 1 : Int32).toNatClampNeg) true M)
def vb_L_law_1666 (k18 : Nat → Nat → Int32 → mj_M → Prop) (xs : Nat → Int32) (Ln : Nat) (l1 : Nat) (l2 : Nat) (l3 : Int32) (M : mj_M) : Prop := vp_in (l3 + 1) Ln ∧ mj_tag M l1 = 12 ∧ vc_X11_forfeit l1 (xs (l3 + 1 : Int32).toNatClampNeg) M (fun r397 M398 => mj_tag M398 l2 = 13 ∧ vc_X12_forfeit l2 (xs (l3 + 1 : Int32).toNatClampNeg) M398 (fun r400 M401 => if r397 = r400 then (vb_L_law_1834 k18 xs Ln l1 l2 l3 M401) else (False)))
def vb_L_law_1689 (k18 : Nat → Nat → Int32 → mj_M → Prop) (xs : Nat → Int32) (Ln : Nat) (l1 : Nat) (l2 : Nat) (l3 : Int32) (M : mj_M) : Prop := vp_in (l3 + 1) Ln ∧ mj_tag M l1 = 12 ∧ vc_X11_relieve l1 (xs (l3 + 1 : Int32).toNatClampNeg) M (fun r405 M406 => mj_tag M406 l2 = 13 ∧ vc_X12_relieve l2 (xs (l3 + 1 : Int32).toNatClampNeg) M406 (fun r408 M409 => if r405 = r408 then (vb_L_law_1834 k18 xs Ln l1 l2 l3 M409) else (False)))
def vb_L_law_1712 (k18 : Nat → Nat → Int32 → mj_M → Prop) (xs : Nat → Int32) (Ln : Nat) (l1 : Nat) (l2 : Nat) (l3 : Int32) (M : mj_M) : Prop := vp_in (l3 + 1) Ln ∧ vp_in (l3 + 2) Ln ∧ vp_in (l3 + 3) Ln ∧ vp_in (l3 + 4) Ln ∧ mj_tag M l1 = 12 ∧ vc_X11_line l1 (xs (l3 + 1 : Int32).toNatClampNeg) (xs (l3 + 2 : Int32).toNatClampNeg) (xs (l3 + 3 : Int32).toNatClampNeg) (xs (l3 + 4 : Int32).toNatClampNeg) M (fun r416 M417 => mj_tag M417 l2 = 13 ∧ vc_X12_line l2 (xs (l3 + 1 : Int32).toNatClampNeg) (xs (l3 + 2 : Int32).toNatClampNeg) (xs (l3 + 3 : Int32).toNatClampNeg) (xs (l3 + 4 : Int32).toNatClampNeg) M417 (fun r419 M420 => if r416 = r419 then (vb_L_law_1834 k18 xs Ln l1 l2 l3 M420) else (False)))
def vb_L_law_1765 (k18 : Nat → Nat → Int32 → mj_M → Prop) (xs : Nat → Int32) (Ln : Nat) (l1 : Nat) (l2 : Nat) (l3 : Int32) (M : mj_M) : Prop := vp_in (l3 + 1) Ln ∧ mj_tag M l1 = 12 ∧ vc_X11_can l1 (xs (l3 + 1 : Int32).toNatClampNeg) M (fun r424 M425 => mj_tag M425 l2 = 13 ∧ vc_X12_can l2 (xs (l3 + 1 : Int32).toNatClampNeg) M425 (fun r427 M428 => if r424 = r427 then (vb_L_law_1834 k18 xs Ln l1 l2 l3 M428) else (False)))
def vb_L_law_1788 (k18 : Nat → Nat → Int32 → mj_M → Prop) (xs : Nat → Int32) (Ln : Nat) (l1 : Nat) (l2 : Nat) (l3 : Int32) (M : mj_M) : Prop := vp_in (l3 + 1) Ln ∧ mj_tag M l1 = 12 ∧ vc_X11_doubted l1 (xs (l3 + 1 : Int32).toNatClampNeg) M (fun r432 M433 => mj_tag M433 l2 = 13 ∧ vc_X12_doubted l2 (xs (l3 + 1 : Int32).toNatClampNeg) M433 (fun r435 M436 => if r432 = r435 then (vb_L_law_1834 k18 xs Ln l1 l2 l3 M436) else (False)))
def vb_L_law_1811 (k18 : Nat → Nat → Int32 → mj_M → Prop) (xs : Nat → Int32) (Ln : Nat) (l1 : Nat) (l2 : Nat) (l3 : Int32) (M : mj_M) : Prop := vp_in (l3 + 1) Ln ∧ mj_tag M l1 = 12 ∧ vc_X11_told l1 (xs (l3 + 1 : Int32).toNatClampNeg) M (fun r440 M441 => mj_tag M441 l2 = 13 ∧ vc_X12_told l2 (xs (l3 + 1 : Int32).toNatClampNeg) M441 (fun r443 M444 => if r440 = r443 then (vb_L_law_1834 k18 xs Ln l1 l2 l3 M444) else (False)))
def vb_L_law_18 (xs : Nat → Int32) (Ln : Nat) : Nat → Nat → Nat → Int32 → mj_M → Prop
  | 0 => fun _ _ _ _ => False
  | f + 1 => fun l1 l2 l3 M => if ((Int32.ofNat Ln) - 6) < l3 then (True) else (vp_in l3 Ln ∧ if ((xs (l3 : Int32).toNatClampNeg) &&& 63) = 0 then (vb_L_law_244 (vb_L_law_18 xs Ln f) xs Ln l1 l2 l3 M) else (if ((xs (l3 : Int32).toNatClampNeg) &&& 63) = 1 then (vb_L_law_267 (vb_L_law_18 xs Ln f) xs Ln l1 l2 l3 M) else (if ((xs (l3 : Int32).toNatClampNeg) &&& 63) = 2 then (vb_L_law_300 (vb_L_law_18 xs Ln f) xs Ln l1 l2 l3 M) else (if ((xs (l3 : Int32).toNatClampNeg) &&& 63) = 3 then (vb_L_law_363 (vb_L_law_18 xs Ln f) xs Ln l1 l2 l3 M) else (if ((xs (l3 : Int32).toNatClampNeg) &&& 63) = 4 then (vb_L_law_426 (vb_L_law_18 xs Ln f) xs Ln l1 l2 l3 M) else (if ((xs (l3 : Int32).toNatClampNeg) &&& 63) = 5 then (vb_L_law_459 (vb_L_law_18 xs Ln f) xs Ln l1 l2 l3 M) else (if ((xs (l3 : Int32).toNatClampNeg) &&& 63) = 6 then (vb_L_law_502 (vb_L_law_18 xs Ln f) xs Ln l1 l2 l3 M) else (if ((xs (l3 : Int32).toNatClampNeg) &&& 63) = 7 then (vb_L_law_535 (vb_L_law_18 xs Ln f) xs Ln l1 l2 l3 M) else (if ((xs (l3 : Int32).toNatClampNeg) &&& 63) = 8 then (vb_L_law_568 (vb_L_law_18 xs Ln f) xs Ln l1 l2 l3 M) else (if ((xs (l3 : Int32).toNatClampNeg) &&& 63) = 9 then (vb_L_law_601 (vb_L_law_18 xs Ln f) xs Ln l1 l2 l3 M) else (if ((xs (l3 : Int32).toNatClampNeg) &&& 63) = 10 then (vb_L_law_634 (vb_L_law_18 xs Ln f) xs Ln l1 l2 l3 M) else (if ((xs (l3 : Int32).toNatClampNeg) &&& 63) = 11 then (vb_L_law_677 (vb_L_law_18 xs Ln f) xs Ln l1 l2 l3 M) else (if ((xs (l3 : Int32).toNatClampNeg) &&& 63) = 12 then (vb_L_law_710 (vb_L_law_18 xs Ln f) xs Ln l1 l2 l3 M) else (if ((xs (l3 : Int32).toNatClampNeg) &&& 63) = 13 then (vb_L_law_754 (vb_L_law_18 xs Ln f) xs Ln l1 l2 l3 M) else (if ((xs (l3 : Int32).toNatClampNeg) &&& 63) = 14 then (vb_L_law_787 (vb_L_law_18 xs Ln f) xs Ln l1 l2 l3 M) else (if ((xs (l3 : Int32).toNatClampNeg) &&& 63) = 15 then (vb_L_law_810 (vb_L_law_18 xs Ln f) xs Ln l1 l2 l3 M) else (if ((xs (l3 : Int32).toNatClampNeg) &&& 63) = 16 then (vb_L_law_823 (vb_L_law_18 xs Ln f) xs Ln l1 l2 l3 M) else (if ((xs (l3 : Int32).toNatClampNeg) &&& 63) = 17 then (vb_L_law_836 (vb_L_law_18 xs Ln f) xs Ln l1 l2 l3 M) else (if ((xs (l3 : Int32).toNatClampNeg) &&& 63) = 18 then (vb_L_law_869 (vb_L_law_18 xs Ln f) xs Ln l1 l2 l3 M) else (if ((xs (l3 : Int32).toNatClampNeg) &&& 63) = 19 then (vb_L_law_902 (vb_L_law_18 xs Ln f) xs Ln l1 l2 l3 M) else (if ((xs (l3 : Int32).toNatClampNeg) &&& 63) = 20 then (vb_L_law_935 (vb_L_law_18 xs Ln f) xs Ln l1 l2 l3 M) else (if ((xs (l3 : Int32).toNatClampNeg) &&& 63) = 21 then (vb_L_law_968 (vb_L_law_18 xs Ln f) xs Ln l1 l2 l3 M) else (if ((xs (l3 : Int32).toNatClampNeg) &&& 63) = 22 then (vb_L_law_1001 (vb_L_law_18 xs Ln f) xs Ln l1 l2 l3 M) else (if ((xs (l3 : Int32).toNatClampNeg) &&& 63) = 23 then (vb_L_law_1034 (vb_L_law_18 xs Ln f) xs Ln l1 l2 l3 M) else (if ((xs (l3 : Int32).toNatClampNeg) &&& 63) = 24 then (vb_L_law_1083 (vb_L_law_18 xs Ln f) xs Ln l1 l2 l3 M) else (if ((xs (l3 : Int32).toNatClampNeg) &&& 63) = 25 then (vb_L_law_1106 (vb_L_law_18 xs Ln f) xs Ln l1 l2 l3 M) else (if ((xs (l3 : Int32).toNatClampNeg) &&& 63) = 26 then (vb_L_law_1155 (vb_L_law_18 xs Ln f) xs Ln l1 l2 l3 M) else (if ((xs (l3 : Int32).toNatClampNeg) &&& 63) = 27 then (vb_L_law_1178 (vb_L_law_18 xs Ln f) xs Ln l1 l2 l3 M) else (if ((xs (l3 : Int32).toNatClampNeg) &&& 63) = 28 then (vb_L_law_1201 (vb_L_law_18 xs Ln f) xs Ln l1 l2 l3 M) else (if ((xs (l3 : Int32).toNatClampNeg) &&& 63) = 29 then (vb_L_law_1224 (vb_L_law_18 xs Ln f) xs Ln l1 l2 l3 M) else (if ((xs (l3 : Int32).toNatClampNeg) &&& 63) = 30 then (vb_L_law_1257 (vb_L_law_18 xs Ln f) xs Ln l1 l2 l3 M) else (if ((xs (l3 : Int32).toNatClampNeg) &&& 63) = 31 then (vb_L_law_1290 (vb_L_law_18 xs Ln f) xs Ln l1 l2 l3 M) else (if ((xs (l3 : Int32).toNatClampNeg) &&& 63) = 32 then (vb_L_law_1303 (vb_L_law_18 xs Ln f) xs Ln l1 l2 l3 M) else (if ((xs (l3 : Int32).toNatClampNeg) &&& 63) = 33 then (vb_L_law_1326 (vb_L_law_18 xs Ln f) xs Ln l1 l2 l3 M) else (if ((xs (l3 : Int32).toNatClampNeg) &&& 63) = 34 then (vb_L_law_1349 (vb_L_law_18 xs Ln f) xs Ln l1 l2 l3 M) else (if ((xs (l3 : Int32).toNatClampNeg) &&& 63) = 35 then (vb_L_law_1382 (vb_L_law_18 xs Ln f) xs Ln l1 l2 l3 M) else (if ((xs (l3 : Int32).toNatClampNeg) &&& 63) = 36 then (vb_L_law_1426 (vb_L_law_18 xs Ln f) xs Ln l1 l2 l3 M) else (if ((xs (l3 : Int32).toNatClampNeg) &&& 63) = 37 then (vb_L_law_1450 (vb_L_law_18 xs Ln f) xs Ln l1 l2 l3 M) else (if ((xs (l3 : Int32).toNatClampNeg) &&& 63) = 38 then (vb_L_law_1483 (vb_L_law_18 xs Ln f) xs Ln l1 l2 l3 M) else (if ((xs (l3 : Int32).toNatClampNeg) &&& 63) = 39 then (vb_L_law_1517 (vb_L_law_18 xs Ln f) xs Ln l1 l2 l3 M) else (if ((xs (l3 : Int32).toNatClampNeg) &&& 63) = 40 then (vb_L_law_1551 (vb_L_law_18 xs Ln f) xs Ln l1 l2 l3 M) else (if ((xs (l3 : Int32).toNatClampNeg) &&& 63) = 41 then (vb_L_law_1584 (vb_L_law_18 xs Ln f) xs Ln l1 l2 l3 M) else (if ((xs (l3 : Int32).toNatClampNeg) &&& 63) = 42 then (vb_L_law_1617 (vb_L_law_18 xs Ln f) xs Ln l1 l2 l3 M) else (if ((xs (l3 : Int32).toNatClampNeg) &&& 63) = 43 then (vb_L_law_1666 (vb_L_law_18 xs Ln f) xs Ln l1 l2 l3 M) else (if ((xs (l3 : Int32).toNatClampNeg) &&& 63) = 44 then (vb_L_law_1689 (vb_L_law_18 xs Ln f) xs Ln l1 l2 l3 M) else (if ((xs (l3 : Int32).toNatClampNeg) &&& 63) = 45 then (vb_L_law_1712 (vb_L_law_18 xs Ln f) xs Ln l1 l2 l3 M) else (if ((xs (l3 : Int32).toNatClampNeg) &&& 63) = 46 then (vb_L_law_1765 (vb_L_law_18 xs Ln f) xs Ln l1 l2 l3 M) else (if ((xs (l3 : Int32).toNatClampNeg) &&& 63) = 47 then (vb_L_law_1788 (vb_L_law_18 xs Ln f) xs Ln l1 l2 l3 M) else (if ((xs (l3 : Int32).toNatClampNeg) &&& 63) = 48 then (vb_L_law_1811 (vb_L_law_18 xs Ln f) xs Ln l1 l2 l3 M) else (vb_L_law_1834 (vb_L_law_18 xs Ln f) xs Ln l1 l2 l3 M))))))))))))))))))))))))))))))))))))))))))))))))))
def vc_L_law (xs : Nat → Int32) (Ln : Nat) (M : mj_M) : Prop := ∀ M497 : mj_M, M497 = mj_new M 11 → (¬ (mj_nx M) = 0) ∧ vc_X11_init (mj_nx M) M497 (fun _ M500 => ∀ M501 : mj_M, M501 = mj_new M500 12 → (¬ (mj_nx M500) = 0) ∧ vc_X12_init (mj_nx M500) M501 (fun _ M504 => ∃ fe, fe ≤ 100000 ∧ vb_L_law_18 xs Ln fe (mj_nx M) (mj_nx M500) 0 M504))
set_option maxHeartbeats 4000000 in
set_option maxRecDepth 100000 in
theorem xb_L_law_1834 {b Ln : Nat} {xs : Nat → Int32} {g : mj_G} {nm : String} (hC : mj_C g ⟨R_law, nm, ""⟩ code 4 ret room_1) (hE : mj_EL g) (hSC : mj_SC g b Ln xs) {k18 : Nat → Nat → Int32 → mj_M → Prop} {f : Nat} (hk18 : ∀ (l1 : Nat) (l2 : Nat) (l3 : Int32) (M : mj_M) (k n : Nat), k + 2 * f ≤ 600000 → n + 52 * f ≤ 7302250 → k18 l1 l2 l3 M → mj_X g 18 [(0, vR (b + 1)), (1, vR l1), (2, vR l2), (3, vI l3)] [] M k n) (l1 : Nat) (l2 : Nat) (l3 : Int32) (M : mj_M) (k n : Nat) (hk : k + 2 * f ≤ 600000) (hn : n + 52 * f ≤ 7302250) (h : vb_L_law_1834 k18 xs Ln l1 l2 l3 M) : mj_X g 1834 [(0, vR (b + 1)), (1, vR l1), (2, vR l2), (3, vI l3)] [] M k n := by
  simp only [vb_L_law_1834] at h
  refine mx_iinc (j := 3) (v := l3 + 6) (L' := [(3, vI (l3 + 6)), (0, vR ((b + 1))), (1, vR l1), (2, vR l2)]) hC dL_law_1834 rfl rfl (by decide) rfl ?_
  refine mx_goto (tgt := 18) hC dL_law_1837 (by decide) ?_
  refine mx_sub (L' := [(0, vR (b + 1)), (1, vR l1), (2, vR l2), (3, vI (l3 + 6))]) [1, 2, 3, 0] rfl ?_
  exact show mj_X g 18 [(0, vR (b + 1)), (1, vR l1), (2, vR l2), (3, vI (l3 + 6))] [] M k n from (hk18 l1 l2 (l3 + 6) M _ _ (by omega) (by omega) h)
set_option maxHeartbeats 4000000 in
set_option maxRecDepth 100000 in
theorem xb_L_law_244 {b Ln : Nat} {xs : Nat → Int32} {g : mj_G} {nm : String} (hC : mj_C g ⟨R_law, nm, ""⟩ code 4 ret room_1) (hE : mj_EL g) (hSC : mj_SC g b Ln xs) {k18 : Nat → Nat → Int32 → mj_M → Prop} {f : Nat} (hk18 : ∀ (l1 : Nat) (l2 : Nat) (l3 : Int32) (M : mj_M) (k n : Nat), k + 2 * f ≤ 600000 → n + 52 * f ≤ 7302250 → k18 l1 l2 l3 M → mj_X g 18 [(0, vR (b + 1)), (1, vR l1), (2, vR l2), (3, vI l3)] [] M k n) (l1 : Nat) (l2 : Nat) (l3 : Int32) (M : mj_M) (k n : Nat) (hk : k + 2 * (f + 1) ≤ 600000) (hn : n + 52 * (f + 1) ≤ 7302250) (h : vb_L_law_244 k18 xs Ln l1 l2 l3 M) : mj_X g 244 [(0, vR (b + 1)), (1, vR l1), (2, vR l2), (3, vI l3)] [] M k n := by
  simp only [vb_L_law_244] at h
  refine mx_aload_n (j := 1) hC dL_law_244 rfl rfl ?_
  refine mx_aload_n (j := 0) hC dL_law_245 rfl rfl ?_
  refine mx_iload_n (j := 3) hC dL_law_246 rfl rfl ?_
  refine mx_iconst (v := 1) hC dL_law_247 (by decide) ?_
  refine mx_iadd hC dL_law_248 ?_
  obtain ⟨hi1, h⟩ := h
  refine mx_sld hC hSC hi1 dL_law_249 ?_
  obtain ⟨ht2, h⟩ := h
  refine mx_callV (inj := mj_jI) (As := [vI (xs (l3 + 1 : Int32).toNatClampNeg)]) (st := []) hC (ct_X11_today l1 (xs (l3 + 1 : Int32).toNatClampNeg) M _ h) ty_X11_today tw286 ht2 rfl (Nat.le_of_ble_eq_true rfl) ⟨rfl, rfl, ⟨by decide, by decide⟩, by show _ ≤ 600000; omega, by show _ ≤ 7302250; omega⟩ dL_law_250 (fun r3 M4 h => ?_)
  show mj_X g 253 [(0, vR ((b + 1))), (1, vR l1), (2, vR l2), (3, vI l3)] [vI r3] M4 k n
  refine mx_aload_n (j := 2) hC dL_law_253 rfl rfl ?_
  refine mx_aload_n (j := 0) hC dL_law_254 rfl rfl ?_
  refine mx_iload_n (j := 3) hC dL_law_255 rfl rfl ?_
  refine mx_iconst (v := 1) hC dL_law_256 (by decide) ?_
  refine mx_iadd hC dL_law_257 ?_
  refine mx_sld hC hSC hi1 dL_law_258 ?_
  obtain ⟨ht5, h⟩ := h
  refine mx_callV (inj := mj_jI) (As := [vI (xs (l3 + 1 : Int32).toNatClampNeg)]) (st := [vI r3]) hC (ct_X12_today l2 (xs (l3 + 1 : Int32).toNatClampNeg) M4 _ h) ty_X12_today tw1374 ht5 rfl (Nat.le_of_ble_eq_true rfl) ⟨rfl, rfl, ⟨by decide, by decide⟩, by show _ ≤ 600000; omega, by show _ ≤ 7302250; omega⟩ dL_law_259 (fun r6 M7 h => ?_)
  show mj_X g 262 [(0, vR ((b + 1))), (1, vR l1), (2, vR l2), (3, vI l3)] [vI r6, vI r3] M7 k n
  refine mx_icmpeq (tgt := 1834) hC dL_law_262 (by decide) (fun hc8 => ?_) (fun hc8 => ?_)
  · replace h := mj_yy hc8 h
    refine mx_sub (L' := [(0, vR (b + 1)), (1, vR l1), (2, vR l2), (3, vI l3)]) [0, 1, 2, 3] rfl ?_
    exact show mj_X g 1834 [(0, vR (b + 1)), (1, vR l1), (2, vR l2), (3, vI l3)] [] M7 k n from (xb_L_law_1834 (f := f) hC hE hSC hk18 l1 l2 l3 M7 _ _ (by omega) (by omega) h)
  · replace h := mj_nn hc8 h
    refine mx_iconst (v := 0) hC dL_law_265 (by decide) ?_
    exact h.elim
set_option maxHeartbeats 4000000 in
set_option maxRecDepth 100000 in
theorem xb_L_law_267 {b Ln : Nat} {xs : Nat → Int32} {g : mj_G} {nm : String} (hC : mj_C g ⟨R_law, nm, ""⟩ code 4 ret room_1) (hE : mj_EL g) (hSC : mj_SC g b Ln xs) {k18 : Nat → Nat → Int32 → mj_M → Prop} {f : Nat} (hk18 : ∀ (l1 : Nat) (l2 : Nat) (l3 : Int32) (M : mj_M) (k n : Nat), k + 2 * f ≤ 600000 → n + 52 * f ≤ 7302250 → k18 l1 l2 l3 M → mj_X g 18 [(0, vR (b + 1)), (1, vR l1), (2, vR l2), (3, vI l3)] [] M k n) (l1 : Nat) (l2 : Nat) (l3 : Int32) (M : mj_M) (k n : Nat) (hk : k + 2 * (f + 1) ≤ 600000) (hn : n + 52 * (f + 1) ≤ 7302250) (h : vb_L_law_267 k18 xs Ln l1 l2 l3 M) : mj_X g 267 [(0, vR (b + 1)), (1, vR l1), (2, vR l2), (3, vI l3)] [] M k n := by
  simp only [vb_L_law_267] at h
  refine mx_aload_n (j := 1) hC dL_law_267 rfl rfl ?_
  refine mx_aload_n (j := 0) hC dL_law_268 rfl rfl ?_
  refine mx_iload_n (j := 3) hC dL_law_269 rfl rfl ?_
  refine mx_iconst (v := 1) hC dL_law_270 (by decide) ?_
  refine mx_iadd hC dL_law_271 ?_
  obtain ⟨hi9, h⟩ := h
  refine mx_sld hC hSC hi9 dL_law_272 ?_
  refine mx_aload_n (j := 0) hC dL_law_273 rfl rfl ?_
  refine mx_iload_n (j := 3) hC dL_law_274 rfl rfl ?_
  refine mx_iconst (v := 2) hC dL_law_275 (by decide) ?_
  refine mx_iadd hC dL_law_276 ?_
  obtain ⟨hi10, h⟩ := h
  refine mx_sld hC hSC hi10 dL_law_277 ?_
  obtain ⟨ht11, h⟩ := h
  refine mx_callV (inj := mj_jI) (As := [vI (xs (l3 + 1 : Int32).toNatClampNeg), vI (xs (l3 + 2 : Int32).toNatClampNeg)]) (st := []) hC (ct_X11_whole l1 (xs (l3 + 1 : Int32).toNatClampNeg) (xs (l3 + 2 : Int32).toNatClampNeg) M _ h) ty_X11_whole tw294 ht11 rfl (Nat.le_of_ble_eq_true rfl) ⟨rfl, rfl, ⟨by decide, by decide⟩, by show _ ≤ 600000; omega, by show _ ≤ 7302250; omega⟩ dL_law_278 (fun r12 M13 h => ?_)
  show mj_X g 281 [(0, vR ((b + 1))), (1, vR l1), (2, vR l2), (3, vI l3)] [vI r12] M13 (k + 1) (n + 15)
  refine mx_aload_n (j := 2) hC dL_law_281 rfl rfl ?_
  refine mx_aload_n (j := 0) hC dL_law_282 rfl rfl ?_
  refine mx_iload_n (j := 3) hC dL_law_283 rfl rfl ?_
  refine mx_iconst (v := 1) hC dL_law_284 (by decide) ?_
  refine mx_iadd hC dL_law_285 ?_
  refine mx_sld hC hSC hi9 dL_law_286 ?_
  refine mx_aload_n (j := 0) hC dL_law_287 rfl rfl ?_
  refine mx_iload_n (j := 3) hC dL_law_288 rfl rfl ?_
  refine mx_iconst (v := 2) hC dL_law_289 (by decide) ?_
  refine mx_iadd hC dL_law_290 ?_
  refine mx_sld hC hSC hi10 dL_law_291 ?_
  obtain ⟨ht14, h⟩ := h
  refine mx_callV (inj := mj_jI) (As := [vI (xs (l3 + 1 : Int32).toNatClampNeg), vI (xs (l3 + 2 : Int32).toNatClampNeg)]) (st := [vI r12]) hC (ct_X12_whole l2 (xs (l3 + 1 : Int32).toNatClampNeg) (xs (l3 + 2 : Int32).toNatClampNeg) M13 _ h) ty_X12_whole tw1382 ht14 rfl (Nat.le_of_ble_eq_true rfl) ⟨rfl, rfl, ⟨by decide, by decide⟩, by show _ ≤ 600000; omega, by show _ ≤ 7302250; omega⟩ dL_law_292 (fun r15 M16 h => ?_)
  show mj_X g 295 [(0, vR ((b + 1))), (1, vR l1), (2, vR l2), (3, vI l3)] [vI r15, vI r12] M16 (k + 1) (n + 15)
  refine mx_icmpeq (tgt := 1834) hC dL_law_295 (by decide) (fun hc17 => ?_) (fun hc17 => ?_)
  · replace h := mj_yy hc17 h
    refine mx_sub (L' := [(0, vR (b + 1)), (1, vR l1), (2, vR l2), (3, vI l3)]) [0, 1, 2, 3] rfl ?_
    exact show mj_X g 1834 [(0, vR (b + 1)), (1, vR l1), (2, vR l2), (3, vI l3)] [] M16 (k + 1) (n + 15) from (xb_L_law_1834 (f := f) hC hE hSC hk18 l1 l2 l3 M16 _ _ (by omega) (by omega) h)
  · replace h := mj_nn hc17 h
    refine mx_iconst (v := 0) hC dL_law_298 (by decide) ?_
    exact h.elim
set_option maxHeartbeats 4000000 in
set_option maxRecDepth 100000 in
theorem xb_L_law_300 {b Ln : Nat} {xs : Nat → Int32} {g : mj_G} {nm : String} (hC : mj_C g ⟨R_law, nm, ""⟩ code 4 ret room_1) (hE : mj_EL g) (hSC : mj_SC g b Ln xs) {k18 : Nat → Nat → Int32 → mj_M → Prop} {f : Nat} (hk18 : ∀ (l1 : Nat) (l2 : Nat) (l3 : Int32) (M : mj_M) (k n : Nat), k + 2 * f ≤ 600000 → n + 52 * f ≤ 7302250 → k18 l1 l2 l3 M → mj_X g 18 [(0, vR (b + 1)), (1, vR l1), (2, vR l2), (3, vI l3)] [] M k n) (l1 : Nat) (l2 : Nat) (l3 : Int32) (M : mj_M) (k n : Nat) (hk : k + 2 * (f + 1) ≤ 600000) (hn : n + 52 * (f + 1) ≤ 7302250) (h : vb_L_law_300 k18 xs Ln l1 l2 l3 M) : mj_X g 300 [(0, vR (b + 1)), (1, vR l1), (2, vR l2), (3, vI l3)] [] M k n := by
  simp only [vb_L_law_300] at h
  refine mx_aload_n (j := 1) hC dL_law_300 rfl rfl ?_
  refine mx_aload_n (j := 0) hC dL_law_301 rfl rfl ?_
  refine mx_iload_n (j := 3) hC dL_law_302 rfl rfl ?_
  refine mx_iconst (v := 1) hC dL_law_303 (by decide) ?_
  refine mx_iadd hC dL_law_304 ?_
  obtain ⟨hi18, h⟩ := h
  refine mx_sld hC hSC hi18 dL_law_305 ?_
  refine mx_aload_n (j := 0) hC dL_law_306 rfl rfl ?_
  refine mx_iload_n (j := 3) hC dL_law_307 rfl rfl ?_
  refine mx_iconst (v := 2) hC dL_law_308 (by decide) ?_
  refine mx_iadd hC dL_law_309 ?_
  obtain ⟨hi19, h⟩ := h
  refine mx_sld hC hSC hi19 dL_law_310 ?_
  refine mx_aload_n (j := 0) hC dL_law_311 rfl rfl ?_
  refine mx_iload_n (j := 3) hC dL_law_312 rfl rfl ?_
  refine mx_iconst (v := 3) hC dL_law_313 (by decide) ?_
  refine mx_iadd hC dL_law_314 ?_
  obtain ⟨hi20, h⟩ := h
  refine mx_sld hC hSC hi20 dL_law_315 ?_
  refine mx_aload_n (j := 0) hC dL_law_316 rfl rfl ?_
  refine mx_iload_n (j := 3) hC dL_law_317 rfl rfl ?_
  refine mx_iconst (v := 4) hC dL_law_318 (by decide) ?_
  refine mx_iadd hC dL_law_319 ?_
  obtain ⟨hi21, h⟩ := h
  refine mx_sld hC hSC hi21 dL_law_320 ?_
  refine mx_aload_n (j := 0) hC dL_law_321 rfl rfl ?_
  refine mx_iload_n (j := 3) hC dL_law_322 rfl rfl ?_
  refine mx_iconst (v := 5) hC dL_law_323 (by decide) ?_
  refine mx_iadd hC dL_law_324 ?_
  obtain ⟨hi22, h⟩ := h
  refine mx_sld hC hSC hi22 dL_law_325 ?_
  obtain ⟨ht23, h⟩ := h
  refine mx_callV (inj := mj_jI) (As := [vI (xs (l3 + 1 : Int32).toNatClampNeg), vI (xs (l3 + 2 : Int32).toNatClampNeg), vI (xs (l3 + 3 : Int32).toNatClampNeg), vI (xs (l3 + 4 : Int32).toNatClampNeg), vI (xs (l3 + 5 : Int32).toNatClampNeg)]) (st := []) hC (ct_X11_lease l1 (xs (l3 + 1 : Int32).toNatClampNeg) (xs (l3 + 2 : Int32).toNatClampNeg) (xs (l3 + 3 : Int32).toNatClampNeg) (xs (l3 + 4 : Int32).toNatClampNeg) (xs (l3 + 5 : Int32).toNatClampNeg) M _ h) ty_X11_lease tw393 ht23 rfl (Nat.le_of_ble_eq_true rfl) ⟨rfl, rfl, ⟨by decide, by decide⟩, by show _ ≤ 600000; omega, by show _ ≤ 7302250; omega⟩ dL_law_326 (fun r24 M25 h => ?_)
  show mj_X g 329 [(0, vR ((b + 1))), (1, vR l1), (2, vR l2), (3, vI l3)] [vI r24] M25 (k + 1) (n + 15)
  refine mx_aload_n (j := 2) hC dL_law_329 rfl rfl ?_
  refine mx_aload_n (j := 0) hC dL_law_330 rfl rfl ?_
  refine mx_iload_n (j := 3) hC dL_law_331 rfl rfl ?_
  refine mx_iconst (v := 1) hC dL_law_332 (by decide) ?_
  refine mx_iadd hC dL_law_333 ?_
  refine mx_sld hC hSC hi18 dL_law_334 ?_
  refine mx_aload_n (j := 0) hC dL_law_335 rfl rfl ?_
  refine mx_iload_n (j := 3) hC dL_law_336 rfl rfl ?_
  refine mx_iconst (v := 2) hC dL_law_337 (by decide) ?_
  refine mx_iadd hC dL_law_338 ?_
  refine mx_sld hC hSC hi19 dL_law_339 ?_
  refine mx_aload_n (j := 0) hC dL_law_340 rfl rfl ?_
  refine mx_iload_n (j := 3) hC dL_law_341 rfl rfl ?_
  refine mx_iconst (v := 3) hC dL_law_342 (by decide) ?_
  refine mx_iadd hC dL_law_343 ?_
  refine mx_sld hC hSC hi20 dL_law_344 ?_
  refine mx_aload_n (j := 0) hC dL_law_345 rfl rfl ?_
  refine mx_iload_n (j := 3) hC dL_law_346 rfl rfl ?_
  refine mx_iconst (v := 4) hC dL_law_347 (by decide) ?_
  refine mx_iadd hC dL_law_348 ?_
  refine mx_sld hC hSC hi21 dL_law_349 ?_
  refine mx_aload_n (j := 0) hC dL_law_350 rfl rfl ?_
  refine mx_iload_n (j := 3) hC dL_law_351 rfl rfl ?_
  refine mx_iconst (v := 5) hC dL_law_352 (by decide) ?_
  refine mx_iadd hC dL_law_353 ?_
  refine mx_sld hC hSC hi22 dL_law_354 ?_
  obtain ⟨ht26, h⟩ := h
  refine mx_callV (inj := mj_jI) (As := [vI (xs (l3 + 1 : Int32).toNatClampNeg), vI (xs (l3 + 2 : Int32).toNatClampNeg), vI (xs (l3 + 3 : Int32).toNatClampNeg), vI (xs (l3 + 4 : Int32).toNatClampNeg), vI (xs (l3 + 5 : Int32).toNatClampNeg)]) (st := [vI r24]) hC (ct_X12_lease l2 (xs (l3 + 1 : Int32).toNatClampNeg) (xs (l3 + 2 : Int32).toNatClampNeg) (xs (l3 + 3 : Int32).toNatClampNeg) (xs (l3 + 4 : Int32).toNatClampNeg) (xs (l3 + 5 : Int32).toNatClampNeg) M25 _ h) ty_X12_lease tw1399 ht26 rfl (Nat.le_of_ble_eq_true rfl) ⟨rfl, rfl, ⟨by decide, by decide⟩, by show _ ≤ 600000; omega, by show _ ≤ 7302250; omega⟩ dL_law_355 (fun r27 M28 h => ?_)
  show mj_X g 358 [(0, vR ((b + 1))), (1, vR l1), (2, vR l2), (3, vI l3)] [vI r27, vI r24] M28 (k + 1) (n + 15)
  refine mx_icmpeq (tgt := 1834) hC dL_law_358 (by decide) (fun hc29 => ?_) (fun hc29 => ?_)
  · replace h := mj_yy hc29 h
    refine mx_sub (L' := [(0, vR (b + 1)), (1, vR l1), (2, vR l2), (3, vI l3)]) [0, 1, 2, 3] rfl ?_
    exact show mj_X g 1834 [(0, vR (b + 1)), (1, vR l1), (2, vR l2), (3, vI l3)] [] M28 (k + 1) (n + 15) from (xb_L_law_1834 (f := f) hC hE hSC hk18 l1 l2 l3 M28 _ _ (by omega) (by omega) h)
  · replace h := mj_nn hc29 h
    refine mx_iconst (v := 0) hC dL_law_361 (by decide) ?_
    exact h.elim
set_option maxHeartbeats 4000000 in
set_option maxRecDepth 100000 in
theorem xb_L_law_363 {b Ln : Nat} {xs : Nat → Int32} {g : mj_G} {nm : String} (hC : mj_C g ⟨R_law, nm, ""⟩ code 4 ret room_1) (hE : mj_EL g) (hSC : mj_SC g b Ln xs) {k18 : Nat → Nat → Int32 → mj_M → Prop} {f : Nat} (hk18 : ∀ (l1 : Nat) (l2 : Nat) (l3 : Int32) (M : mj_M) (k n : Nat), k + 2 * f ≤ 600000 → n + 52 * f ≤ 7302250 → k18 l1 l2 l3 M → mj_X g 18 [(0, vR (b + 1)), (1, vR l1), (2, vR l2), (3, vI l3)] [] M k n) (l1 : Nat) (l2 : Nat) (l3 : Int32) (M : mj_M) (k n : Nat) (hk : k + 2 * (f + 1) ≤ 600000) (hn : n + 52 * (f + 1) ≤ 7302250) (h : vb_L_law_363 k18 xs Ln l1 l2 l3 M) : mj_X g 363 [(0, vR (b + 1)), (1, vR l1), (2, vR l2), (3, vI l3)] [] M k n := by
  simp only [vb_L_law_363] at h
  refine mx_aload_n (j := 1) hC dL_law_363 rfl rfl ?_
  refine mx_aload_n (j := 0) hC dL_law_364 rfl rfl ?_
  refine mx_iload_n (j := 3) hC dL_law_365 rfl rfl ?_
  refine mx_iconst (v := 1) hC dL_law_366 (by decide) ?_
  refine mx_iadd hC dL_law_367 ?_
  obtain ⟨hi30, h⟩ := h
  refine mx_sld hC hSC hi30 dL_law_368 ?_
  refine mx_aload_n (j := 0) hC dL_law_369 rfl rfl ?_
  refine mx_iload_n (j := 3) hC dL_law_370 rfl rfl ?_
  refine mx_iconst (v := 2) hC dL_law_371 (by decide) ?_
  refine mx_iadd hC dL_law_372 ?_
  obtain ⟨hi31, h⟩ := h
  refine mx_sld hC hSC hi31 dL_law_373 ?_
  refine mx_aload_n (j := 0) hC dL_law_374 rfl rfl ?_
  refine mx_iload_n (j := 3) hC dL_law_375 rfl rfl ?_
  refine mx_iconst (v := 3) hC dL_law_376 (by decide) ?_
  refine mx_iadd hC dL_law_377 ?_
  obtain ⟨hi32, h⟩ := h
  refine mx_sld hC hSC hi32 dL_law_378 ?_
  refine mx_aload_n (j := 0) hC dL_law_379 rfl rfl ?_
  refine mx_iload_n (j := 3) hC dL_law_380 rfl rfl ?_
  refine mx_iconst (v := 4) hC dL_law_381 (by decide) ?_
  refine mx_iadd hC dL_law_382 ?_
  obtain ⟨hi33, h⟩ := h
  refine mx_sld hC hSC hi33 dL_law_383 ?_
  refine mx_aload_n (j := 0) hC dL_law_384 rfl rfl ?_
  refine mx_iload_n (j := 3) hC dL_law_385 rfl rfl ?_
  refine mx_iconst (v := 5) hC dL_law_386 (by decide) ?_
  refine mx_iadd hC dL_law_387 ?_
  obtain ⟨hi34, h⟩ := h
  refine mx_sld hC hSC hi34 dL_law_388 ?_
  obtain ⟨ht35, h⟩ := h
  refine mx_callV (inj := mj_jI) (As := [vI (xs (l3 + 1 : Int32).toNatClampNeg), vI (xs (l3 + 2 : Int32).toNatClampNeg), vI (xs (l3 + 3 : Int32).toNatClampNeg), vI (xs (l3 + 4 : Int32).toNatClampNeg), vI (xs (l3 + 5 : Int32).toNatClampNeg)]) (st := []) hC (ct_X11_between l1 (xs (l3 + 1 : Int32).toNatClampNeg) (xs (l3 + 2 : Int32).toNatClampNeg) (xs (l3 + 3 : Int32).toNatClampNeg) (xs (l3 + 4 : Int32).toNatClampNeg) (xs (l3 + 5 : Int32).toNatClampNeg) M _ h) ty_X11_between tw435 ht35 rfl (Nat.le_of_ble_eq_true rfl) ⟨rfl, rfl, ⟨by decide, by decide⟩, by show _ ≤ 600000; omega, by show _ ≤ 7302250; omega⟩ dL_law_389 (fun r36 M37 h => ?_)
  show mj_X g 392 [(0, vR ((b + 1))), (1, vR l1), (2, vR l2), (3, vI l3)] [vI r36] M37 (k + 1) (n + 15)
  refine mx_aload_n (j := 2) hC dL_law_392 rfl rfl ?_
  refine mx_aload_n (j := 0) hC dL_law_393 rfl rfl ?_
  refine mx_iload_n (j := 3) hC dL_law_394 rfl rfl ?_
  refine mx_iconst (v := 1) hC dL_law_395 (by decide) ?_
  refine mx_iadd hC dL_law_396 ?_
  refine mx_sld hC hSC hi30 dL_law_397 ?_
  refine mx_aload_n (j := 0) hC dL_law_398 rfl rfl ?_
  refine mx_iload_n (j := 3) hC dL_law_399 rfl rfl ?_
  refine mx_iconst (v := 2) hC dL_law_400 (by decide) ?_
  refine mx_iadd hC dL_law_401 ?_
  refine mx_sld hC hSC hi31 dL_law_402 ?_
  refine mx_aload_n (j := 0) hC dL_law_403 rfl rfl ?_
  refine mx_iload_n (j := 3) hC dL_law_404 rfl rfl ?_
  refine mx_iconst (v := 3) hC dL_law_405 (by decide) ?_
  refine mx_iadd hC dL_law_406 ?_
  refine mx_sld hC hSC hi32 dL_law_407 ?_
  refine mx_aload_n (j := 0) hC dL_law_408 rfl rfl ?_
  refine mx_iload_n (j := 3) hC dL_law_409 rfl rfl ?_
  refine mx_iconst (v := 4) hC dL_law_410 (by decide) ?_
  refine mx_iadd hC dL_law_411 ?_
  refine mx_sld hC hSC hi33 dL_law_412 ?_
  refine mx_aload_n (j := 0) hC dL_law_413 rfl rfl ?_
  refine mx_iload_n (j := 3) hC dL_law_414 rfl rfl ?_
  refine mx_iconst (v := 5) hC dL_law_415 (by decide) ?_
  refine mx_iadd hC dL_law_416 ?_
  refine mx_sld hC hSC hi34 dL_law_417 ?_
  obtain ⟨ht38, h⟩ := h
  refine mx_callV (inj := mj_jI) (As := [vI (xs (l3 + 1 : Int32).toNatClampNeg), vI (xs (l3 + 2 : Int32).toNatClampNeg), vI (xs (l3 + 3 : Int32).toNatClampNeg), vI (xs (l3 + 4 : Int32).toNatClampNeg), vI (xs (l3 + 5 : Int32).toNatClampNeg)]) (st := [vI r36]) hC (ct_X12_between l2 (xs (l3 + 1 : Int32).toNatClampNeg) (xs (l3 + 2 : Int32).toNatClampNeg) (xs (l3 + 3 : Int32).toNatClampNeg) (xs (l3 + 4 : Int32).toNatClampNeg) (xs (l3 + 5 : Int32).toNatClampNeg) M37 _ h) ty_X12_between tw1432 ht38 rfl (Nat.le_of_ble_eq_true rfl) ⟨rfl, rfl, ⟨by decide, by decide⟩, by show _ ≤ 600000; omega, by show _ ≤ 7302250; omega⟩ dL_law_418 (fun r39 M40 h => ?_)
  show mj_X g 421 [(0, vR ((b + 1))), (1, vR l1), (2, vR l2), (3, vI l3)] [vI r39, vI r36] M40 (k + 1) (n + 15)
  refine mx_icmpeq (tgt := 1834) hC dL_law_421 (by decide) (fun hc41 => ?_) (fun hc41 => ?_)
  · replace h := mj_yy hc41 h
    refine mx_sub (L' := [(0, vR (b + 1)), (1, vR l1), (2, vR l2), (3, vI l3)]) [0, 1, 2, 3] rfl ?_
    exact show mj_X g 1834 [(0, vR (b + 1)), (1, vR l1), (2, vR l2), (3, vI l3)] [] M40 (k + 1) (n + 15) from (xb_L_law_1834 (f := f) hC hE hSC hk18 l1 l2 l3 M40 _ _ (by omega) (by omega) h)
  · replace h := mj_nn hc41 h
    refine mx_iconst (v := 0) hC dL_law_424 (by decide) ?_
    exact h.elim
set_option maxHeartbeats 4000000 in
set_option maxRecDepth 100000 in
theorem xb_L_law_426 {b Ln : Nat} {xs : Nat → Int32} {g : mj_G} {nm : String} (hC : mj_C g ⟨R_law, nm, ""⟩ code 4 ret room_1) (hE : mj_EL g) (hSC : mj_SC g b Ln xs) {k18 : Nat → Nat → Int32 → mj_M → Prop} {f : Nat} (hk18 : ∀ (l1 : Nat) (l2 : Nat) (l3 : Int32) (M : mj_M) (k n : Nat), k + 2 * f ≤ 600000 → n + 52 * f ≤ 7302250 → k18 l1 l2 l3 M → mj_X g 18 [(0, vR (b + 1)), (1, vR l1), (2, vR l2), (3, vI l3)] [] M k n) (l1 : Nat) (l2 : Nat) (l3 : Int32) (M : mj_M) (k n : Nat) (hk : k + 2 * (f + 1) ≤ 600000) (hn : n + 52 * (f + 1) ≤ 7302250) (h : vb_L_law_426 k18 xs Ln l1 l2 l3 M) : mj_X g 426 [(0, vR (b + 1)), (1, vR l1), (2, vR l2), (3, vI l3)] [] M k n := by
  simp only [vb_L_law_426] at h
  refine mx_aload_n (j := 1) hC dL_law_426 rfl rfl ?_
  refine mx_aload_n (j := 0) hC dL_law_427 rfl rfl ?_
  refine mx_iload_n (j := 3) hC dL_law_428 rfl rfl ?_
  refine mx_iconst (v := 1) hC dL_law_429 (by decide) ?_
  refine mx_iadd hC dL_law_430 ?_
  obtain ⟨hi42, h⟩ := h
  refine mx_sld hC hSC hi42 dL_law_431 ?_
  refine mx_aload_n (j := 0) hC dL_law_432 rfl rfl ?_
  refine mx_iload_n (j := 3) hC dL_law_433 rfl rfl ?_
  refine mx_iconst (v := 2) hC dL_law_434 (by decide) ?_
  refine mx_iadd hC dL_law_435 ?_
  obtain ⟨hi43, h⟩ := h
  refine mx_sld hC hSC hi43 dL_law_436 ?_
  obtain ⟨ht44, h⟩ := h
  refine mx_callV (inj := mj_jI) (As := [vI (xs (l3 + 1 : Int32).toNatClampNeg), vI (xs (l3 + 2 : Int32).toNatClampNeg)]) (st := []) hC (ct_X11_sell l1 (xs (l3 + 1 : Int32).toNatClampNeg) (xs (l3 + 2 : Int32).toNatClampNeg) M _ h) ty_X11_sell tw454 ht44 rfl (Nat.le_of_ble_eq_true rfl) ⟨rfl, rfl, ⟨by decide, by decide⟩, by show _ ≤ 600000; omega, by show _ ≤ 7302250; omega⟩ dL_law_437 (fun r45 M46 h => ?_)
  show mj_X g 440 [(0, vR ((b + 1))), (1, vR l1), (2, vR l2), (3, vI l3)] [vI r45] M46 k n
  refine mx_aload_n (j := 2) hC dL_law_440 rfl rfl ?_
  refine mx_aload_n (j := 0) hC dL_law_441 rfl rfl ?_
  refine mx_iload_n (j := 3) hC dL_law_442 rfl rfl ?_
  refine mx_iconst (v := 1) hC dL_law_443 (by decide) ?_
  refine mx_iadd hC dL_law_444 ?_
  refine mx_sld hC hSC hi42 dL_law_445 ?_
  refine mx_aload_n (j := 0) hC dL_law_446 rfl rfl ?_
  refine mx_iload_n (j := 3) hC dL_law_447 rfl rfl ?_
  refine mx_iconst (v := 2) hC dL_law_448 (by decide) ?_
  refine mx_iadd hC dL_law_449 ?_
  refine mx_sld hC hSC hi43 dL_law_450 ?_
  obtain ⟨ht47, h⟩ := h
  refine mx_callV (inj := mj_jI) (As := [vI (xs (l3 + 1 : Int32).toNatClampNeg), vI (xs (l3 + 2 : Int32).toNatClampNeg)]) (st := [vI r45]) hC (ct_X12_sell l2 (xs (l3 + 1 : Int32).toNatClampNeg) (xs (l3 + 2 : Int32).toNatClampNeg) M46 _ h) ty_X12_sell tw1436 ht47 rfl (Nat.le_of_ble_eq_true rfl) ⟨rfl, rfl, ⟨by decide, by decide⟩, by show _ ≤ 600000; omega, by show _ ≤ 7302250; omega⟩ dL_law_451 (fun r48 M49 h => ?_)
  show mj_X g 454 [(0, vR ((b + 1))), (1, vR l1), (2, vR l2), (3, vI l3)] [vI r48, vI r45] M49 k n
  refine mx_icmpeq (tgt := 1834) hC dL_law_454 (by decide) (fun hc50 => ?_) (fun hc50 => ?_)
  · replace h := mj_yy hc50 h
    refine mx_sub (L' := [(0, vR (b + 1)), (1, vR l1), (2, vR l2), (3, vI l3)]) [0, 1, 2, 3] rfl ?_
    exact show mj_X g 1834 [(0, vR (b + 1)), (1, vR l1), (2, vR l2), (3, vI l3)] [] M49 k n from (xb_L_law_1834 (f := f) hC hE hSC hk18 l1 l2 l3 M49 _ _ (by omega) (by omega) h)
  · replace h := mj_nn hc50 h
    refine mx_iconst (v := 0) hC dL_law_457 (by decide) ?_
    exact h.elim
set_option maxHeartbeats 4000000 in
set_option maxRecDepth 100000 in
theorem xb_L_law_459 {b Ln : Nat} {xs : Nat → Int32} {g : mj_G} {nm : String} (hC : mj_C g ⟨R_law, nm, ""⟩ code 4 ret room_1) (hE : mj_EL g) (hSC : mj_SC g b Ln xs) {k18 : Nat → Nat → Int32 → mj_M → Prop} {f : Nat} (hk18 : ∀ (l1 : Nat) (l2 : Nat) (l3 : Int32) (M : mj_M) (k n : Nat), k + 2 * f ≤ 600000 → n + 52 * f ≤ 7302250 → k18 l1 l2 l3 M → mj_X g 18 [(0, vR (b + 1)), (1, vR l1), (2, vR l2), (3, vI l3)] [] M k n) (l1 : Nat) (l2 : Nat) (l3 : Int32) (M : mj_M) (k n : Nat) (hk : k + 2 * (f + 1) ≤ 600000) (hn : n + 52 * (f + 1) ≤ 7302250) (h : vb_L_law_459 k18 xs Ln l1 l2 l3 M) : mj_X g 459 [(0, vR (b + 1)), (1, vR l1), (2, vR l2), (3, vI l3)] [] M k n := by
  simp only [vb_L_law_459] at h
  refine mx_aload_n (j := 1) hC dL_law_459 rfl rfl ?_
  refine mx_aload_n (j := 0) hC dL_law_460 rfl rfl ?_
  refine mx_iload_n (j := 3) hC dL_law_461 rfl rfl ?_
  refine mx_iconst (v := 1) hC dL_law_462 (by decide) ?_
  refine mx_iadd hC dL_law_463 ?_
  obtain ⟨hi51, h⟩ := h
  refine mx_sld hC hSC hi51 dL_law_464 ?_
  refine mx_aload_n (j := 0) hC dL_law_465 rfl rfl ?_
  refine mx_iload_n (j := 3) hC dL_law_466 rfl rfl ?_
  refine mx_iconst (v := 2) hC dL_law_467 (by decide) ?_
  refine mx_iadd hC dL_law_468 ?_
  obtain ⟨hi52, h⟩ := h
  refine mx_sld hC hSC hi52 dL_law_469 ?_
  refine mx_aload_n (j := 0) hC dL_law_470 rfl rfl ?_
  refine mx_iload_n (j := 3) hC dL_law_471 rfl rfl ?_
  refine mx_iconst (v := 3) hC dL_law_472 (by decide) ?_
  refine mx_iadd hC dL_law_473 ?_
  obtain ⟨hi53, h⟩ := h
  refine mx_sld hC hSC hi53 dL_law_474 ?_
  obtain ⟨ht54, h⟩ := h
  refine mx_callV (inj := mj_jI) (As := [vI (xs (l3 + 1 : Int32).toNatClampNeg), vI (xs (l3 + 2 : Int32).toNatClampNeg), vI (xs (l3 + 3 : Int32).toNatClampNeg)]) (st := []) hC (ct_X11_part l1 (xs (l3 + 1 : Int32).toNatClampNeg) (xs (l3 + 2 : Int32).toNatClampNeg) (xs (l3 + 3 : Int32).toNatClampNeg) M _ h) ty_X11_part tw466 ht54 rfl (Nat.le_of_ble_eq_true rfl) ⟨rfl, rfl, ⟨by decide, by decide⟩, by show _ ≤ 600000; omega, by show _ ≤ 7302250; omega⟩ dL_law_475 (fun r55 M56 h => ?_)
  show mj_X g 478 [(0, vR ((b + 1))), (1, vR l1), (2, vR l2), (3, vI l3)] [vI r55] M56 (k + 1) (n + 15)
  refine mx_aload_n (j := 2) hC dL_law_478 rfl rfl ?_
  refine mx_aload_n (j := 0) hC dL_law_479 rfl rfl ?_
  refine mx_iload_n (j := 3) hC dL_law_480 rfl rfl ?_
  refine mx_iconst (v := 1) hC dL_law_481 (by decide) ?_
  refine mx_iadd hC dL_law_482 ?_
  refine mx_sld hC hSC hi51 dL_law_483 ?_
  refine mx_aload_n (j := 0) hC dL_law_484 rfl rfl ?_
  refine mx_iload_n (j := 3) hC dL_law_485 rfl rfl ?_
  refine mx_iconst (v := 2) hC dL_law_486 (by decide) ?_
  refine mx_iadd hC dL_law_487 ?_
  refine mx_sld hC hSC hi52 dL_law_488 ?_
  refine mx_aload_n (j := 0) hC dL_law_489 rfl rfl ?_
  refine mx_iload_n (j := 3) hC dL_law_490 rfl rfl ?_
  refine mx_iconst (v := 3) hC dL_law_491 (by decide) ?_
  refine mx_iadd hC dL_law_492 ?_
  refine mx_sld hC hSC hi53 dL_law_493 ?_
  obtain ⟨ht57, h⟩ := h
  refine mx_callV (inj := mj_jI) (As := [vI (xs (l3 + 1 : Int32).toNatClampNeg), vI (xs (l3 + 2 : Int32).toNatClampNeg), vI (xs (l3 + 3 : Int32).toNatClampNeg)]) (st := [vI r55]) hC (ct_X12_part l2 (xs (l3 + 1 : Int32).toNatClampNeg) (xs (l3 + 2 : Int32).toNatClampNeg) (xs (l3 + 3 : Int32).toNatClampNeg) M56 _ h) ty_X12_part tw1444 ht57 rfl (Nat.le_of_ble_eq_true rfl) ⟨rfl, rfl, ⟨by decide, by decide⟩, by show _ ≤ 600000; omega, by show _ ≤ 7302250; omega⟩ dL_law_494 (fun r58 M59 h => ?_)
  show mj_X g 497 [(0, vR ((b + 1))), (1, vR l1), (2, vR l2), (3, vI l3)] [vI r58, vI r55] M59 (k + 1) (n + 15)
  refine mx_icmpeq (tgt := 1834) hC dL_law_497 (by decide) (fun hc60 => ?_) (fun hc60 => ?_)
  · replace h := mj_yy hc60 h
    refine mx_sub (L' := [(0, vR (b + 1)), (1, vR l1), (2, vR l2), (3, vI l3)]) [0, 1, 2, 3] rfl ?_
    exact show mj_X g 1834 [(0, vR (b + 1)), (1, vR l1), (2, vR l2), (3, vI l3)] [] M59 (k + 1) (n + 15) from (xb_L_law_1834 (f := f) hC hE hSC hk18 l1 l2 l3 M59 _ _ (by omega) (by omega) h)
  · replace h := mj_nn hc60 h
    refine mx_iconst (v := 0) hC dL_law_500 (by decide) ?_
    exact h.elim
set_option maxHeartbeats 4000000 in
set_option maxRecDepth 100000 in
theorem xb_L_law_502 {b Ln : Nat} {xs : Nat → Int32} {g : mj_G} {nm : String} (hC : mj_C g ⟨R_law, nm, ""⟩ code 4 ret room_1) (hE : mj_EL g) (hSC : mj_SC g b Ln xs) {k18 : Nat → Nat → Int32 → mj_M → Prop} {f : Nat} (hk18 : ∀ (l1 : Nat) (l2 : Nat) (l3 : Int32) (M : mj_M) (k n : Nat), k + 2 * f ≤ 600000 → n + 52 * f ≤ 7302250 → k18 l1 l2 l3 M → mj_X g 18 [(0, vR (b + 1)), (1, vR l1), (2, vR l2), (3, vI l3)] [] M k n) (l1 : Nat) (l2 : Nat) (l3 : Int32) (M : mj_M) (k n : Nat) (hk : k + 2 * (f + 1) ≤ 600000) (hn : n + 52 * (f + 1) ≤ 7302250) (h : vb_L_law_502 k18 xs Ln l1 l2 l3 M) : mj_X g 502 [(0, vR (b + 1)), (1, vR l1), (2, vR l2), (3, vI l3)] [] M k n := by
  simp only [vb_L_law_502] at h
  refine mx_aload_n (j := 1) hC dL_law_502 rfl rfl ?_
  refine mx_aload_n (j := 0) hC dL_law_503 rfl rfl ?_
  refine mx_iload_n (j := 3) hC dL_law_504 rfl rfl ?_
  refine mx_iconst (v := 1) hC dL_law_505 (by decide) ?_
  refine mx_iadd hC dL_law_506 ?_
  obtain ⟨hi61, h⟩ := h
  refine mx_sld hC hSC hi61 dL_law_507 ?_
  refine mx_aload_n (j := 0) hC dL_law_508 rfl rfl ?_
  refine mx_iload_n (j := 3) hC dL_law_509 rfl rfl ?_
  refine mx_iconst (v := 2) hC dL_law_510 (by decide) ?_
  refine mx_iadd hC dL_law_511 ?_
  obtain ⟨hi62, h⟩ := h
  refine mx_sld hC hSC hi62 dL_law_512 ?_
  obtain ⟨ht63, h⟩ := h
  refine mx_callV (inj := mj_jI) (As := [vI (xs (l3 + 1 : Int32).toNatClampNeg), vI (xs (l3 + 2 : Int32).toNatClampNeg)]) (st := []) hC (ct_X11_end l1 (xs (l3 + 1 : Int32).toNatClampNeg) (xs (l3 + 2 : Int32).toNatClampNeg) M _ h) ty_X11_end tw490 ht63 rfl (Nat.le_of_ble_eq_true rfl) ⟨rfl, rfl, ⟨by decide, by decide⟩, by show _ ≤ 600000; omega, by show _ ≤ 7302250; omega⟩ dL_law_513 (fun r64 M65 h => ?_)
  show mj_X g 516 [(0, vR ((b + 1))), (1, vR l1), (2, vR l2), (3, vI l3)] [vI r64] M65 k n
  refine mx_aload_n (j := 2) hC dL_law_516 rfl rfl ?_
  refine mx_aload_n (j := 0) hC dL_law_517 rfl rfl ?_
  refine mx_iload_n (j := 3) hC dL_law_518 rfl rfl ?_
  refine mx_iconst (v := 1) hC dL_law_519 (by decide) ?_
  refine mx_iadd hC dL_law_520 ?_
  refine mx_sld hC hSC hi61 dL_law_521 ?_
  refine mx_aload_n (j := 0) hC dL_law_522 rfl rfl ?_
  refine mx_iload_n (j := 3) hC dL_law_523 rfl rfl ?_
  refine mx_iconst (v := 2) hC dL_law_524 (by decide) ?_
  refine mx_iadd hC dL_law_525 ?_
  refine mx_sld hC hSC hi62 dL_law_526 ?_
  obtain ⟨ht66, h⟩ := h
  refine mx_callV (inj := mj_jI) (As := [vI (xs (l3 + 1 : Int32).toNatClampNeg), vI (xs (l3 + 2 : Int32).toNatClampNeg)]) (st := [vI r64]) hC (ct_X12_end l2 (xs (l3 + 1 : Int32).toNatClampNeg) (xs (l3 + 2 : Int32).toNatClampNeg) M65 _ h) ty_X12_end tw1456 ht66 rfl (Nat.le_of_ble_eq_true rfl) ⟨rfl, rfl, ⟨by decide, by decide⟩, by show _ ≤ 600000; omega, by show _ ≤ 7302250; omega⟩ dL_law_527 (fun r67 M68 h => ?_)
  show mj_X g 530 [(0, vR ((b + 1))), (1, vR l1), (2, vR l2), (3, vI l3)] [vI r67, vI r64] M68 k n
  refine mx_icmpeq (tgt := 1834) hC dL_law_530 (by decide) (fun hc69 => ?_) (fun hc69 => ?_)
  · replace h := mj_yy hc69 h
    refine mx_sub (L' := [(0, vR (b + 1)), (1, vR l1), (2, vR l2), (3, vI l3)]) [0, 1, 2, 3] rfl ?_
    exact show mj_X g 1834 [(0, vR (b + 1)), (1, vR l1), (2, vR l2), (3, vI l3)] [] M68 k n from (xb_L_law_1834 (f := f) hC hE hSC hk18 l1 l2 l3 M68 _ _ (by omega) (by omega) h)
  · replace h := mj_nn hc69 h
    refine mx_iconst (v := 0) hC dL_law_533 (by decide) ?_
    exact h.elim
set_option maxHeartbeats 4000000 in
set_option maxRecDepth 100000 in
theorem xb_L_law_535 {b Ln : Nat} {xs : Nat → Int32} {g : mj_G} {nm : String} (hC : mj_C g ⟨R_law, nm, ""⟩ code 4 ret room_1) (hE : mj_EL g) (hSC : mj_SC g b Ln xs) {k18 : Nat → Nat → Int32 → mj_M → Prop} {f : Nat} (hk18 : ∀ (l1 : Nat) (l2 : Nat) (l3 : Int32) (M : mj_M) (k n : Nat), k + 2 * f ≤ 600000 → n + 52 * f ≤ 7302250 → k18 l1 l2 l3 M → mj_X g 18 [(0, vR (b + 1)), (1, vR l1), (2, vR l2), (3, vI l3)] [] M k n) (l1 : Nat) (l2 : Nat) (l3 : Int32) (M : mj_M) (k n : Nat) (hk : k + 2 * (f + 1) ≤ 600000) (hn : n + 52 * (f + 1) ≤ 7302250) (h : vb_L_law_535 k18 xs Ln l1 l2 l3 M) : mj_X g 535 [(0, vR (b + 1)), (1, vR l1), (2, vR l2), (3, vI l3)] [] M k n := by
  simp only [vb_L_law_535] at h
  refine mx_aload_n (j := 1) hC dL_law_535 rfl rfl ?_
  refine mx_aload_n (j := 0) hC dL_law_536 rfl rfl ?_
  refine mx_iload_n (j := 3) hC dL_law_537 rfl rfl ?_
  refine mx_iconst (v := 1) hC dL_law_538 (by decide) ?_
  refine mx_iadd hC dL_law_539 ?_
  obtain ⟨hi70, h⟩ := h
  refine mx_sld hC hSC hi70 dL_law_540 ?_
  refine mx_aload_n (j := 0) hC dL_law_541 rfl rfl ?_
  refine mx_iload_n (j := 3) hC dL_law_542 rfl rfl ?_
  refine mx_iconst (v := 2) hC dL_law_543 (by decide) ?_
  refine mx_iadd hC dL_law_544 ?_
  obtain ⟨hi71, h⟩ := h
  refine mx_sld hC hSC hi71 dL_law_545 ?_
  obtain ⟨ht72, h⟩ := h
  refine mx_callV (inj := mj_jI) (As := [vI (xs (l3 + 1 : Int32).toNatClampNeg), vI (xs (l3 + 2 : Int32).toNatClampNeg)]) (st := []) hC (ct_X11_about l1 (xs (l3 + 1 : Int32).toNatClampNeg) (xs (l3 + 2 : Int32).toNatClampNeg) M _ h) ty_X11_about tw502 ht72 rfl (Nat.le_of_ble_eq_true rfl) ⟨rfl, rfl, ⟨by decide, by decide⟩, by show _ ≤ 600000; omega, by show _ ≤ 7302250; omega⟩ dL_law_546 (fun r73 M74 h => ?_)
  show mj_X g 549 [(0, vR ((b + 1))), (1, vR l1), (2, vR l2), (3, vI l3)] [vI r73] M74 k n
  refine mx_aload_n (j := 2) hC dL_law_549 rfl rfl ?_
  refine mx_aload_n (j := 0) hC dL_law_550 rfl rfl ?_
  refine mx_iload_n (j := 3) hC dL_law_551 rfl rfl ?_
  refine mx_iconst (v := 1) hC dL_law_552 (by decide) ?_
  refine mx_iadd hC dL_law_553 ?_
  refine mx_sld hC hSC hi70 dL_law_554 ?_
  refine mx_aload_n (j := 0) hC dL_law_555 rfl rfl ?_
  refine mx_iload_n (j := 3) hC dL_law_556 rfl rfl ?_
  refine mx_iconst (v := 2) hC dL_law_557 (by decide) ?_
  refine mx_iadd hC dL_law_558 ?_
  refine mx_sld hC hSC hi71 dL_law_559 ?_
  obtain ⟨ht75, h⟩ := h
  refine mx_callV (inj := mj_jI) (As := [vI (xs (l3 + 1 : Int32).toNatClampNeg), vI (xs (l3 + 2 : Int32).toNatClampNeg)]) (st := [vI r73]) hC (ct_X12_about l2 (xs (l3 + 1 : Int32).toNatClampNeg) (xs (l3 + 2 : Int32).toNatClampNeg) M74 _ h) ty_X12_about tw1468 ht75 rfl (Nat.le_of_ble_eq_true rfl) ⟨rfl, rfl, ⟨by decide, by decide⟩, by show _ ≤ 600000; omega, by show _ ≤ 7302250; omega⟩ dL_law_560 (fun r76 M77 h => ?_)
  show mj_X g 563 [(0, vR ((b + 1))), (1, vR l1), (2, vR l2), (3, vI l3)] [vI r76, vI r73] M77 k n
  refine mx_icmpeq (tgt := 1834) hC dL_law_563 (by decide) (fun hc78 => ?_) (fun hc78 => ?_)
  · replace h := mj_yy hc78 h
    refine mx_sub (L' := [(0, vR (b + 1)), (1, vR l1), (2, vR l2), (3, vI l3)]) [0, 1, 2, 3] rfl ?_
    exact show mj_X g 1834 [(0, vR (b + 1)), (1, vR l1), (2, vR l2), (3, vI l3)] [] M77 k n from (xb_L_law_1834 (f := f) hC hE hSC hk18 l1 l2 l3 M77 _ _ (by omega) (by omega) h)
  · replace h := mj_nn hc78 h
    refine mx_iconst (v := 0) hC dL_law_566 (by decide) ?_
    exact h.elim
set_option maxHeartbeats 4000000 in
set_option maxRecDepth 100000 in
theorem xb_L_law_568 {b Ln : Nat} {xs : Nat → Int32} {g : mj_G} {nm : String} (hC : mj_C g ⟨R_law, nm, ""⟩ code 4 ret room_1) (hE : mj_EL g) (hSC : mj_SC g b Ln xs) {k18 : Nat → Nat → Int32 → mj_M → Prop} {f : Nat} (hk18 : ∀ (l1 : Nat) (l2 : Nat) (l3 : Int32) (M : mj_M) (k n : Nat), k + 2 * f ≤ 600000 → n + 52 * f ≤ 7302250 → k18 l1 l2 l3 M → mj_X g 18 [(0, vR (b + 1)), (1, vR l1), (2, vR l2), (3, vI l3)] [] M k n) (l1 : Nat) (l2 : Nat) (l3 : Int32) (M : mj_M) (k n : Nat) (hk : k + 2 * (f + 1) ≤ 600000) (hn : n + 52 * (f + 1) ≤ 7302250) (h : vb_L_law_568 k18 xs Ln l1 l2 l3 M) : mj_X g 568 [(0, vR (b + 1)), (1, vR l1), (2, vR l2), (3, vI l3)] [] M k n := by
  simp only [vb_L_law_568] at h
  refine mx_aload_n (j := 1) hC dL_law_568 rfl rfl ?_
  refine mx_aload_n (j := 0) hC dL_law_569 rfl rfl ?_
  refine mx_iload_n (j := 3) hC dL_law_570 rfl rfl ?_
  refine mx_iconst (v := 1) hC dL_law_571 (by decide) ?_
  refine mx_iadd hC dL_law_572 ?_
  obtain ⟨hi79, h⟩ := h
  refine mx_sld hC hSC hi79 dL_law_573 ?_
  refine mx_aload_n (j := 0) hC dL_law_574 rfl rfl ?_
  refine mx_iload_n (j := 3) hC dL_law_575 rfl rfl ?_
  refine mx_iconst (v := 2) hC dL_law_576 (by decide) ?_
  refine mx_iadd hC dL_law_577 ?_
  obtain ⟨hi80, h⟩ := h
  refine mx_sld hC hSC hi80 dL_law_578 ?_
  obtain ⟨ht81, h⟩ := h
  refine mx_callV (inj := mj_jI) (As := [vI (xs (l3 + 1 : Int32).toNatClampNeg), vI (xs (l3 + 2 : Int32).toNatClampNeg)]) (st := []) hC (ct_X11_chain l1 (xs (l3 + 1 : Int32).toNatClampNeg) (xs (l3 + 2 : Int32).toNatClampNeg) M _ h) ty_X11_chain tw511 ht81 rfl (Nat.le_of_ble_eq_true rfl) ⟨rfl, rfl, ⟨by decide, by decide⟩, by show _ ≤ 600000; omega, by show _ ≤ 7302250; omega⟩ dL_law_579 (fun r82 M83 h => ?_)
  show mj_X g 582 [(0, vR ((b + 1))), (1, vR l1), (2, vR l2), (3, vI l3)] [vI r82] M83 k n
  refine mx_aload_n (j := 2) hC dL_law_582 rfl rfl ?_
  refine mx_aload_n (j := 0) hC dL_law_583 rfl rfl ?_
  refine mx_iload_n (j := 3) hC dL_law_584 rfl rfl ?_
  refine mx_iconst (v := 1) hC dL_law_585 (by decide) ?_
  refine mx_iadd hC dL_law_586 ?_
  refine mx_sld hC hSC hi79 dL_law_587 ?_
  refine mx_aload_n (j := 0) hC dL_law_588 rfl rfl ?_
  refine mx_iload_n (j := 3) hC dL_law_589 rfl rfl ?_
  refine mx_iconst (v := 2) hC dL_law_590 (by decide) ?_
  refine mx_iadd hC dL_law_591 ?_
  refine mx_sld hC hSC hi80 dL_law_592 ?_
  obtain ⟨ht84, h⟩ := h
  refine mx_callV (inj := mj_jI) (As := [vI (xs (l3 + 1 : Int32).toNatClampNeg), vI (xs (l3 + 2 : Int32).toNatClampNeg)]) (st := [vI r82]) hC (ct_X12_chain l2 (xs (l3 + 1 : Int32).toNatClampNeg) (xs (l3 + 2 : Int32).toNatClampNeg) M83 _ h) ty_X12_chain tw1476 ht84 rfl (Nat.le_of_ble_eq_true rfl) ⟨rfl, rfl, ⟨by decide, by decide⟩, by show _ ≤ 600000; omega, by show _ ≤ 7302250; omega⟩ dL_law_593 (fun r85 M86 h => ?_)
  show mj_X g 596 [(0, vR ((b + 1))), (1, vR l1), (2, vR l2), (3, vI l3)] [vI r85, vI r82] M86 k n
  refine mx_icmpeq (tgt := 1834) hC dL_law_596 (by decide) (fun hc87 => ?_) (fun hc87 => ?_)
  · replace h := mj_yy hc87 h
    refine mx_sub (L' := [(0, vR (b + 1)), (1, vR l1), (2, vR l2), (3, vI l3)]) [0, 1, 2, 3] rfl ?_
    exact show mj_X g 1834 [(0, vR (b + 1)), (1, vR l1), (2, vR l2), (3, vI l3)] [] M86 k n from (xb_L_law_1834 (f := f) hC hE hSC hk18 l1 l2 l3 M86 _ _ (by omega) (by omega) h)
  · replace h := mj_nn hc87 h
    refine mx_iconst (v := 0) hC dL_law_599 (by decide) ?_
    exact h.elim
set_option maxHeartbeats 4000000 in
set_option maxRecDepth 100000 in
theorem xb_L_law_601 {b Ln : Nat} {xs : Nat → Int32} {g : mj_G} {nm : String} (hC : mj_C g ⟨R_law, nm, ""⟩ code 4 ret room_1) (hE : mj_EL g) (hSC : mj_SC g b Ln xs) {k18 : Nat → Nat → Int32 → mj_M → Prop} {f : Nat} (hk18 : ∀ (l1 : Nat) (l2 : Nat) (l3 : Int32) (M : mj_M) (k n : Nat), k + 2 * f ≤ 600000 → n + 52 * f ≤ 7302250 → k18 l1 l2 l3 M → mj_X g 18 [(0, vR (b + 1)), (1, vR l1), (2, vR l2), (3, vI l3)] [] M k n) (l1 : Nat) (l2 : Nat) (l3 : Int32) (M : mj_M) (k n : Nat) (hk : k + 2 * (f + 1) ≤ 600000) (hn : n + 52 * (f + 1) ≤ 7302250) (h : vb_L_law_601 k18 xs Ln l1 l2 l3 M) : mj_X g 601 [(0, vR (b + 1)), (1, vR l1), (2, vR l2), (3, vI l3)] [] M k n := by
  simp only [vb_L_law_601] at h
  refine mx_aload_n (j := 1) hC dL_law_601 rfl rfl ?_
  refine mx_aload_n (j := 0) hC dL_law_602 rfl rfl ?_
  refine mx_iload_n (j := 3) hC dL_law_603 rfl rfl ?_
  refine mx_iconst (v := 1) hC dL_law_604 (by decide) ?_
  refine mx_iadd hC dL_law_605 ?_
  obtain ⟨hi88, h⟩ := h
  refine mx_sld hC hSC hi88 dL_law_606 ?_
  refine mx_aload_n (j := 0) hC dL_law_607 rfl rfl ?_
  refine mx_iload_n (j := 3) hC dL_law_608 rfl rfl ?_
  refine mx_iconst (v := 2) hC dL_law_609 (by decide) ?_
  refine mx_iadd hC dL_law_610 ?_
  obtain ⟨hi89, h⟩ := h
  refine mx_sld hC hSC hi89 dL_law_611 ?_
  obtain ⟨ht90, h⟩ := h
  refine mx_callV (inj := mj_jI) (As := [vI (xs (l3 + 1 : Int32).toNatClampNeg), vI (xs (l3 + 2 : Int32).toNatClampNeg)]) (st := []) hC (ct_X11_live l1 (xs (l3 + 1 : Int32).toNatClampNeg) (xs (l3 + 2 : Int32).toNatClampNeg) M _ h) ty_X11_live tw526 ht90 rfl (Nat.le_of_ble_eq_true rfl) ⟨rfl, rfl, ⟨by decide, by decide⟩, by show _ ≤ 600000; omega, by show _ ≤ 7302250; omega⟩ dL_law_612 (fun r91 M92 h => ?_)
  show mj_X g 615 [(0, vR ((b + 1))), (1, vR l1), (2, vR l2), (3, vI l3)] [vI r91] M92 k n
  refine mx_aload_n (j := 2) hC dL_law_615 rfl rfl ?_
  refine mx_aload_n (j := 0) hC dL_law_616 rfl rfl ?_
  refine mx_iload_n (j := 3) hC dL_law_617 rfl rfl ?_
  refine mx_iconst (v := 1) hC dL_law_618 (by decide) ?_
  refine mx_iadd hC dL_law_619 ?_
  refine mx_sld hC hSC hi88 dL_law_620 ?_
  refine mx_aload_n (j := 0) hC dL_law_621 rfl rfl ?_
  refine mx_iload_n (j := 3) hC dL_law_622 rfl rfl ?_
  refine mx_iconst (v := 2) hC dL_law_623 (by decide) ?_
  refine mx_iadd hC dL_law_624 ?_
  refine mx_sld hC hSC hi89 dL_law_625 ?_
  obtain ⟨ht93, h⟩ := h
  refine mx_callV (inj := mj_jI) (As := [vI (xs (l3 + 1 : Int32).toNatClampNeg), vI (xs (l3 + 2 : Int32).toNatClampNeg)]) (st := [vI r91]) hC (ct_X12_live l2 (xs (l3 + 1 : Int32).toNatClampNeg) (xs (l3 + 2 : Int32).toNatClampNeg) M92 _ h) ty_X12_live tw1488 ht93 rfl (Nat.le_of_ble_eq_true rfl) ⟨rfl, rfl, ⟨by decide, by decide⟩, by show _ ≤ 600000; omega, by show _ ≤ 7302250; omega⟩ dL_law_626 (fun r94 M95 h => ?_)
  show mj_X g 629 [(0, vR ((b + 1))), (1, vR l1), (2, vR l2), (3, vI l3)] [vI r94, vI r91] M95 k n
  refine mx_icmpeq (tgt := 1834) hC dL_law_629 (by decide) (fun hc96 => ?_) (fun hc96 => ?_)
  · replace h := mj_yy hc96 h
    refine mx_sub (L' := [(0, vR (b + 1)), (1, vR l1), (2, vR l2), (3, vI l3)]) [0, 1, 2, 3] rfl ?_
    exact show mj_X g 1834 [(0, vR (b + 1)), (1, vR l1), (2, vR l2), (3, vI l3)] [] M95 k n from (xb_L_law_1834 (f := f) hC hE hSC hk18 l1 l2 l3 M95 _ _ (by omega) (by omega) h)
  · replace h := mj_nn hc96 h
    refine mx_iconst (v := 0) hC dL_law_632 (by decide) ?_
    exact h.elim
set_option maxHeartbeats 4000000 in
set_option maxRecDepth 100000 in
theorem xb_L_law_634 {b Ln : Nat} {xs : Nat → Int32} {g : mj_G} {nm : String} (hC : mj_C g ⟨R_law, nm, ""⟩ code 4 ret room_1) (hE : mj_EL g) (hSC : mj_SC g b Ln xs) {k18 : Nat → Nat → Int32 → mj_M → Prop} {f : Nat} (hk18 : ∀ (l1 : Nat) (l2 : Nat) (l3 : Int32) (M : mj_M) (k n : Nat), k + 2 * f ≤ 600000 → n + 52 * f ≤ 7302250 → k18 l1 l2 l3 M → mj_X g 18 [(0, vR (b + 1)), (1, vR l1), (2, vR l2), (3, vI l3)] [] M k n) (l1 : Nat) (l2 : Nat) (l3 : Int32) (M : mj_M) (k n : Nat) (hk : k + 2 * (f + 1) ≤ 600000) (hn : n + 52 * (f + 1) ≤ 7302250) (h : vb_L_law_634 k18 xs Ln l1 l2 l3 M) : mj_X g 634 [(0, vR (b + 1)), (1, vR l1), (2, vR l2), (3, vI l3)] [] M k n := by
  simp only [vb_L_law_634] at h
  refine mx_aload_n (j := 1) hC dL_law_634 rfl rfl ?_
  refine mx_aload_n (j := 0) hC dL_law_635 rfl rfl ?_
  refine mx_iload_n (j := 3) hC dL_law_636 rfl rfl ?_
  refine mx_iconst (v := 1) hC dL_law_637 (by decide) ?_
  refine mx_iadd hC dL_law_638 ?_
  obtain ⟨hi97, h⟩ := h
  refine mx_sld hC hSC hi97 dL_law_639 ?_
  refine mx_aload_n (j := 0) hC dL_law_640 rfl rfl ?_
  refine mx_iload_n (j := 3) hC dL_law_641 rfl rfl ?_
  refine mx_iconst (v := 2) hC dL_law_642 (by decide) ?_
  refine mx_iadd hC dL_law_643 ?_
  obtain ⟨hi98, h⟩ := h
  refine mx_sld hC hSC hi98 dL_law_644 ?_
  refine mx_aload_n (j := 0) hC dL_law_645 rfl rfl ?_
  refine mx_iload_n (j := 3) hC dL_law_646 rfl rfl ?_
  refine mx_iconst (v := 3) hC dL_law_647 (by decide) ?_
  refine mx_iadd hC dL_law_648 ?_
  obtain ⟨hi99, h⟩ := h
  refine mx_sld hC hSC hi99 dL_law_649 ?_
  obtain ⟨ht100, h⟩ := h
  refine mx_callV (inj := mj_jI) (As := [vI (xs (l3 + 1 : Int32).toNatClampNeg), vI (xs (l3 + 2 : Int32).toNatClampNeg), vI (xs (l3 + 3 : Int32).toNatClampNeg)]) (st := []) hC (ct_X11_rent l1 (xs (l3 + 1 : Int32).toNatClampNeg) (xs (l3 + 2 : Int32).toNatClampNeg) (xs (l3 + 3 : Int32).toNatClampNeg) M _ h) ty_X11_rent tw530 ht100 rfl (Nat.le_of_ble_eq_true rfl) ⟨rfl, rfl, ⟨by decide, by decide⟩, by show _ ≤ 600000; omega, by show _ ≤ 7302250; omega⟩ dL_law_650 (fun r101 M102 h => ?_)
  show mj_X g 653 [(0, vR ((b + 1))), (1, vR l1), (2, vR l2), (3, vI l3)] [vI r101] M102 k n
  refine mx_aload_n (j := 2) hC dL_law_653 rfl rfl ?_
  refine mx_aload_n (j := 0) hC dL_law_654 rfl rfl ?_
  refine mx_iload_n (j := 3) hC dL_law_655 rfl rfl ?_
  refine mx_iconst (v := 1) hC dL_law_656 (by decide) ?_
  refine mx_iadd hC dL_law_657 ?_
  refine mx_sld hC hSC hi97 dL_law_658 ?_
  refine mx_aload_n (j := 0) hC dL_law_659 rfl rfl ?_
  refine mx_iload_n (j := 3) hC dL_law_660 rfl rfl ?_
  refine mx_iconst (v := 2) hC dL_law_661 (by decide) ?_
  refine mx_iadd hC dL_law_662 ?_
  refine mx_sld hC hSC hi98 dL_law_663 ?_
  refine mx_aload_n (j := 0) hC dL_law_664 rfl rfl ?_
  refine mx_iload_n (j := 3) hC dL_law_665 rfl rfl ?_
  refine mx_iconst (v := 3) hC dL_law_666 (by decide) ?_
  refine mx_iadd hC dL_law_667 ?_
  refine mx_sld hC hSC hi99 dL_law_668 ?_
  obtain ⟨ht103, h⟩ := h
  refine mx_callV (inj := mj_jI) (As := [vI (xs (l3 + 1 : Int32).toNatClampNeg), vI (xs (l3 + 2 : Int32).toNatClampNeg), vI (xs (l3 + 3 : Int32).toNatClampNeg)]) (st := [vI r101]) hC (ct_X12_rent l2 (xs (l3 + 1 : Int32).toNatClampNeg) (xs (l3 + 2 : Int32).toNatClampNeg) (xs (l3 + 3 : Int32).toNatClampNeg) M102 _ h) ty_X12_rent tw1492 ht103 rfl (Nat.le_of_ble_eq_true rfl) ⟨rfl, rfl, ⟨by decide, by decide⟩, by show _ ≤ 600000; omega, by show _ ≤ 7302250; omega⟩ dL_law_669 (fun r104 M105 h => ?_)
  show mj_X g 672 [(0, vR ((b + 1))), (1, vR l1), (2, vR l2), (3, vI l3)] [vI r104, vI r101] M105 k n
  refine mx_icmpeq (tgt := 1834) hC dL_law_672 (by decide) (fun hc106 => ?_) (fun hc106 => ?_)
  · replace h := mj_yy hc106 h
    refine mx_sub (L' := [(0, vR (b + 1)), (1, vR l1), (2, vR l2), (3, vI l3)]) [0, 1, 2, 3] rfl ?_
    exact show mj_X g 1834 [(0, vR (b + 1)), (1, vR l1), (2, vR l2), (3, vI l3)] [] M105 k n from (xb_L_law_1834 (f := f) hC hE hSC hk18 l1 l2 l3 M105 _ _ (by omega) (by omega) h)
  · replace h := mj_nn hc106 h
    refine mx_iconst (v := 0) hC dL_law_675 (by decide) ?_
    exact h.elim
set_option maxHeartbeats 4000000 in
set_option maxRecDepth 100000 in
theorem xb_L_law_677 {b Ln : Nat} {xs : Nat → Int32} {g : mj_G} {nm : String} (hC : mj_C g ⟨R_law, nm, ""⟩ code 4 ret room_1) (hE : mj_EL g) (hSC : mj_SC g b Ln xs) {k18 : Nat → Nat → Int32 → mj_M → Prop} {f : Nat} (hk18 : ∀ (l1 : Nat) (l2 : Nat) (l3 : Int32) (M : mj_M) (k n : Nat), k + 2 * f ≤ 600000 → n + 52 * f ≤ 7302250 → k18 l1 l2 l3 M → mj_X g 18 [(0, vR (b + 1)), (1, vR l1), (2, vR l2), (3, vI l3)] [] M k n) (l1 : Nat) (l2 : Nat) (l3 : Int32) (M : mj_M) (k n : Nat) (hk : k + 2 * (f + 1) ≤ 600000) (hn : n + 52 * (f + 1) ≤ 7302250) (h : vb_L_law_677 k18 xs Ln l1 l2 l3 M) : mj_X g 677 [(0, vR (b + 1)), (1, vR l1), (2, vR l2), (3, vI l3)] [] M k n := by
  simp only [vb_L_law_677] at h
  refine mx_aload_n (j := 1) hC dL_law_677 rfl rfl ?_
  refine mx_aload_n (j := 0) hC dL_law_678 rfl rfl ?_
  refine mx_iload_n (j := 3) hC dL_law_679 rfl rfl ?_
  refine mx_iconst (v := 1) hC dL_law_680 (by decide) ?_
  refine mx_iadd hC dL_law_681 ?_
  obtain ⟨hi107, h⟩ := h
  refine mx_sld hC hSC hi107 dL_law_682 ?_
  refine mx_aload_n (j := 0) hC dL_law_683 rfl rfl ?_
  refine mx_iload_n (j := 3) hC dL_law_684 rfl rfl ?_
  refine mx_iconst (v := 2) hC dL_law_685 (by decide) ?_
  refine mx_iadd hC dL_law_686 ?_
  obtain ⟨hi108, h⟩ := h
  refine mx_sld hC hSC hi108 dL_law_687 ?_
  obtain ⟨ht109, h⟩ := h
  refine mx_callV (inj := mj_jI) (As := [vI (xs (l3 + 1 : Int32).toNatClampNeg), vI (xs (l3 + 2 : Int32).toNatClampNeg)]) (st := []) hC (ct_X11_rate l1 (xs (l3 + 1 : Int32).toNatClampNeg) (xs (l3 + 2 : Int32).toNatClampNeg) M _ h) ty_X11_rate tw535 ht109 rfl (Nat.le_of_ble_eq_true rfl) ⟨rfl, rfl, ⟨by decide, by decide⟩, by show _ ≤ 600000; omega, by show _ ≤ 7302250; omega⟩ dL_law_688 (fun r110 M111 h => ?_)
  show mj_X g 691 [(0, vR ((b + 1))), (1, vR l1), (2, vR l2), (3, vI l3)] [vI r110] M111 k n
  refine mx_aload_n (j := 2) hC dL_law_691 rfl rfl ?_
  refine mx_aload_n (j := 0) hC dL_law_692 rfl rfl ?_
  refine mx_iload_n (j := 3) hC dL_law_693 rfl rfl ?_
  refine mx_iconst (v := 1) hC dL_law_694 (by decide) ?_
  refine mx_iadd hC dL_law_695 ?_
  refine mx_sld hC hSC hi107 dL_law_696 ?_
  refine mx_aload_n (j := 0) hC dL_law_697 rfl rfl ?_
  refine mx_iload_n (j := 3) hC dL_law_698 rfl rfl ?_
  refine mx_iconst (v := 2) hC dL_law_699 (by decide) ?_
  refine mx_iadd hC dL_law_700 ?_
  refine mx_sld hC hSC hi108 dL_law_701 ?_
  obtain ⟨ht112, h⟩ := h
  refine mx_callV (inj := mj_jI) (As := [vI (xs (l3 + 1 : Int32).toNatClampNeg), vI (xs (l3 + 2 : Int32).toNatClampNeg)]) (st := [vI r110]) hC (ct_X12_rate l2 (xs (l3 + 1 : Int32).toNatClampNeg) (xs (l3 + 2 : Int32).toNatClampNeg) M111 _ h) ty_X12_rate tw1498 ht112 rfl (Nat.le_of_ble_eq_true rfl) ⟨rfl, rfl, ⟨by decide, by decide⟩, by show _ ≤ 600000; omega, by show _ ≤ 7302250; omega⟩ dL_law_702 (fun r113 M114 h => ?_)
  show mj_X g 705 [(0, vR ((b + 1))), (1, vR l1), (2, vR l2), (3, vI l3)] [vI r113, vI r110] M114 k n
  refine mx_icmpeq (tgt := 1834) hC dL_law_705 (by decide) (fun hc115 => ?_) (fun hc115 => ?_)
  · replace h := mj_yy hc115 h
    refine mx_sub (L' := [(0, vR (b + 1)), (1, vR l1), (2, vR l2), (3, vI l3)]) [0, 1, 2, 3] rfl ?_
    exact show mj_X g 1834 [(0, vR (b + 1)), (1, vR l1), (2, vR l2), (3, vI l3)] [] M114 k n from (xb_L_law_1834 (f := f) hC hE hSC hk18 l1 l2 l3 M114 _ _ (by omega) (by omega) h)
  · replace h := mj_nn hc115 h
    refine mx_iconst (v := 0) hC dL_law_708 (by decide) ?_
    exact h.elim
set_option maxHeartbeats 4000000 in
set_option maxRecDepth 100000 in
theorem xb_L_law_710 {b Ln : Nat} {xs : Nat → Int32} {g : mj_G} {nm : String} (hC : mj_C g ⟨R_law, nm, ""⟩ code 4 ret room_1) (hE : mj_EL g) (hSC : mj_SC g b Ln xs) {k18 : Nat → Nat → Int32 → mj_M → Prop} {f : Nat} (hk18 : ∀ (l1 : Nat) (l2 : Nat) (l3 : Int32) (M : mj_M) (k n : Nat), k + 2 * f ≤ 600000 → n + 52 * f ≤ 7302250 → k18 l1 l2 l3 M → mj_X g 18 [(0, vR (b + 1)), (1, vR l1), (2, vR l2), (3, vI l3)] [] M k n) (l1 : Nat) (l2 : Nat) (l3 : Int32) (M : mj_M) (k n : Nat) (hk : k + 2 * (f + 1) ≤ 600000) (hn : n + 52 * (f + 1) ≤ 7302250) (h : vb_L_law_710 k18 xs Ln l1 l2 l3 M) : mj_X g 710 [(0, vR (b + 1)), (1, vR l1), (2, vR l2), (3, vI l3)] [] M k n := by
  simp only [vb_L_law_710] at h
  refine mx_aload_n (j := 1) hC dL_law_710 rfl rfl ?_
  refine mx_aload_n (j := 0) hC dL_law_711 rfl rfl ?_
  refine mx_iload_n (j := 3) hC dL_law_712 rfl rfl ?_
  refine mx_iconst (v := 1) hC dL_law_713 (by decide) ?_
  refine mx_iadd hC dL_law_714 ?_
  obtain ⟨hi116, h⟩ := h
  refine mx_sld hC hSC hi116 dL_law_715 ?_
  refine mx_aload_n (j := 0) hC dL_law_716 rfl rfl ?_
  refine mx_iload_n (j := 3) hC dL_law_717 rfl rfl ?_
  refine mx_iconst (v := 2) hC dL_law_718 (by decide) ?_
  refine mx_iadd hC dL_law_719 ?_
  obtain ⟨hi117, h⟩ := h
  refine mx_sld hC hSC hi117 dL_law_720 ?_
  refine mx_aload_n (j := 0) hC dL_law_721 rfl rfl ?_
  refine mx_iload_n (j := 3) hC dL_law_722 rfl rfl ?_
  refine mx_iconst (v := 3) hC dL_law_723 (by decide) ?_
  refine mx_iadd hC dL_law_724 ?_
  obtain ⟨hi118, h⟩ := h
  refine mx_sld hC hSC hi118 dL_law_725 ?_
  obtain ⟨ht119, h⟩ := h
  refine mx_callV (inj := mj_jL) (As := [vI (xs (l3 + 1 : Int32).toNatClampNeg), vI (xs (l3 + 2 : Int32).toNatClampNeg), vI (xs (l3 + 3 : Int32).toNatClampNeg)]) (st := []) hC (ct_X11_owed l1 (xs (l3 + 1 : Int32).toNatClampNeg) (xs (l3 + 2 : Int32).toNatClampNeg) (xs (l3 + 3 : Int32).toNatClampNeg) M _ h) ty_X11_owed tw544 ht119 rfl (Nat.le_of_ble_eq_true rfl) ⟨rfl, rfl, ⟨by decide, by decide⟩, by show _ ≤ 600000; omega, by show _ ≤ 7302250; omega⟩ dL_law_726 (fun r120 M121 h => ?_)
  show mj_X g 729 [(0, vR ((b + 1))), (1, vR l1), (2, vR l2), (3, vI l3)] [vL r120] M121 k n
  refine mx_aload_n (j := 2) hC dL_law_729 rfl rfl ?_
  refine mx_aload_n (j := 0) hC dL_law_730 rfl rfl ?_
  refine mx_iload_n (j := 3) hC dL_law_731 rfl rfl ?_
  refine mx_iconst (v := 1) hC dL_law_732 (by decide) ?_
  refine mx_iadd hC dL_law_733 ?_
  refine mx_sld hC hSC hi116 dL_law_734 ?_
  refine mx_aload_n (j := 0) hC dL_law_735 rfl rfl ?_
  refine mx_iload_n (j := 3) hC dL_law_736 rfl rfl ?_
  refine mx_iconst (v := 2) hC dL_law_737 (by decide) ?_
  refine mx_iadd hC dL_law_738 ?_
  refine mx_sld hC hSC hi117 dL_law_739 ?_
  refine mx_aload_n (j := 0) hC dL_law_740 rfl rfl ?_
  refine mx_iload_n (j := 3) hC dL_law_741 rfl rfl ?_
  refine mx_iconst (v := 3) hC dL_law_742 (by decide) ?_
  refine mx_iadd hC dL_law_743 ?_
  refine mx_sld hC hSC hi118 dL_law_744 ?_
  obtain ⟨ht122, h⟩ := h
  refine mx_callV (inj := mj_jL) (As := [vI (xs (l3 + 1 : Int32).toNatClampNeg), vI (xs (l3 + 2 : Int32).toNatClampNeg), vI (xs (l3 + 3 : Int32).toNatClampNeg)]) (st := [vL r120]) hC (ct_X12_owed l2 (xs (l3 + 1 : Int32).toNatClampNeg) (xs (l3 + 2 : Int32).toNatClampNeg) (xs (l3 + 3 : Int32).toNatClampNeg) M121 _ h) ty_X12_owed tw1509 ht122 rfl (Nat.le_of_ble_eq_true rfl) ⟨rfl, rfl, ⟨by decide, by decide⟩, by show _ ≤ 600000; omega, by show _ ≤ 7302250; omega⟩ dL_law_745 (fun r123 M124 h => ?_)
  show mj_X g 748 [(0, vR ((b + 1))), (1, vR l1), (2, vR l2), (3, vI l3)] [vL r123, vL r120] M124 k n
  refine mx_lcmp hC dL_law_748 ?_
  refine mx_ifeq (tgt := 1834) hC dL_law_749 (by decide) (fun hc125 => ?_) (fun hc125 => ?_)
  · replace h := mj_yy hc125 h
    refine mx_sub (L' := [(0, vR (b + 1)), (1, vR l1), (2, vR l2), (3, vI l3)]) [0, 1, 2, 3] rfl ?_
    exact show mj_X g 1834 [(0, vR (b + 1)), (1, vR l1), (2, vR l2), (3, vI l3)] [] M124 k n from (xb_L_law_1834 (f := f) hC hE hSC hk18 l1 l2 l3 M124 _ _ (by omega) (by omega) h)
  · replace h := mj_nn hc125 h
    refine mx_iconst (v := 0) hC dL_law_752 (by decide) ?_
    exact h.elim
set_option maxHeartbeats 4000000 in
set_option maxRecDepth 100000 in
theorem xb_L_law_754 {b Ln : Nat} {xs : Nat → Int32} {g : mj_G} {nm : String} (hC : mj_C g ⟨R_law, nm, ""⟩ code 4 ret room_1) (hE : mj_EL g) (hSC : mj_SC g b Ln xs) {k18 : Nat → Nat → Int32 → mj_M → Prop} {f : Nat} (hk18 : ∀ (l1 : Nat) (l2 : Nat) (l3 : Int32) (M : mj_M) (k n : Nat), k + 2 * f ≤ 600000 → n + 52 * f ≤ 7302250 → k18 l1 l2 l3 M → mj_X g 18 [(0, vR (b + 1)), (1, vR l1), (2, vR l2), (3, vI l3)] [] M k n) (l1 : Nat) (l2 : Nat) (l3 : Int32) (M : mj_M) (k n : Nat) (hk : k + 2 * (f + 1) ≤ 600000) (hn : n + 52 * (f + 1) ≤ 7302250) (h : vb_L_law_754 k18 xs Ln l1 l2 l3 M) : mj_X g 754 [(0, vR (b + 1)), (1, vR l1), (2, vR l2), (3, vI l3)] [] M k n := by
  simp only [vb_L_law_754] at h
  refine mx_aload_n (j := 1) hC dL_law_754 rfl rfl ?_
  refine mx_aload_n (j := 0) hC dL_law_755 rfl rfl ?_
  refine mx_iload_n (j := 3) hC dL_law_756 rfl rfl ?_
  refine mx_iconst (v := 1) hC dL_law_757 (by decide) ?_
  refine mx_iadd hC dL_law_758 ?_
  obtain ⟨hi126, h⟩ := h
  refine mx_sld hC hSC hi126 dL_law_759 ?_
  refine mx_aload_n (j := 0) hC dL_law_760 rfl rfl ?_
  refine mx_iload_n (j := 3) hC dL_law_761 rfl rfl ?_
  refine mx_iconst (v := 2) hC dL_law_762 (by decide) ?_
  refine mx_iadd hC dL_law_763 ?_
  obtain ⟨hi127, h⟩ := h
  refine mx_sld hC hSC hi127 dL_law_764 ?_
  obtain ⟨ht128, h⟩ := h
  refine mx_callV (inj := mj_jI) (As := [vI (xs (l3 + 1 : Int32).toNatClampNeg), vI (xs (l3 + 2 : Int32).toNatClampNeg)]) (st := []) hC (ct_X11_weight l1 (xs (l3 + 1 : Int32).toNatClampNeg) (xs (l3 + 2 : Int32).toNatClampNeg) M _ h) ty_X11_weight tw557 ht128 rfl (Nat.le_of_ble_eq_true rfl) ⟨rfl, rfl, ⟨by decide, by decide⟩, by show _ ≤ 600000; omega, by show _ ≤ 7302250; omega⟩ dL_law_765 (fun r129 M130 h => ?_)
  show mj_X g 768 [(0, vR ((b + 1))), (1, vR l1), (2, vR l2), (3, vI l3)] [vI r129] M130 k n
  refine mx_aload_n (j := 2) hC dL_law_768 rfl rfl ?_
  refine mx_aload_n (j := 0) hC dL_law_769 rfl rfl ?_
  refine mx_iload_n (j := 3) hC dL_law_770 rfl rfl ?_
  refine mx_iconst (v := 1) hC dL_law_771 (by decide) ?_
  refine mx_iadd hC dL_law_772 ?_
  refine mx_sld hC hSC hi126 dL_law_773 ?_
  refine mx_aload_n (j := 0) hC dL_law_774 rfl rfl ?_
  refine mx_iload_n (j := 3) hC dL_law_775 rfl rfl ?_
  refine mx_iconst (v := 2) hC dL_law_776 (by decide) ?_
  refine mx_iadd hC dL_law_777 ?_
  refine mx_sld hC hSC hi127 dL_law_778 ?_
  obtain ⟨ht131, h⟩ := h
  refine mx_callV (inj := mj_jI) (As := [vI (xs (l3 + 1 : Int32).toNatClampNeg), vI (xs (l3 + 2 : Int32).toNatClampNeg)]) (st := [vI r129]) hC (ct_X12_weight l2 (xs (l3 + 1 : Int32).toNatClampNeg) (xs (l3 + 2 : Int32).toNatClampNeg) M130 _ h) ty_X12_weight tw1516 ht131 rfl (Nat.le_of_ble_eq_true rfl) ⟨rfl, rfl, ⟨by decide, by decide⟩, by show _ ≤ 600000; omega, by show _ ≤ 7302250; omega⟩ dL_law_779 (fun r132 M133 h => ?_)
  show mj_X g 782 [(0, vR ((b + 1))), (1, vR l1), (2, vR l2), (3, vI l3)] [vI r132, vI r129] M133 k n
  refine mx_icmpeq (tgt := 1834) hC dL_law_782 (by decide) (fun hc134 => ?_) (fun hc134 => ?_)
  · replace h := mj_yy hc134 h
    refine mx_sub (L' := [(0, vR (b + 1)), (1, vR l1), (2, vR l2), (3, vI l3)]) [0, 1, 2, 3] rfl ?_
    exact show mj_X g 1834 [(0, vR (b + 1)), (1, vR l1), (2, vR l2), (3, vI l3)] [] M133 k n from (xb_L_law_1834 (f := f) hC hE hSC hk18 l1 l2 l3 M133 _ _ (by omega) (by omega) h)
  · replace h := mj_nn hc134 h
    refine mx_iconst (v := 0) hC dL_law_785 (by decide) ?_
    exact h.elim
set_option maxHeartbeats 4000000 in
set_option maxRecDepth 100000 in
theorem xb_L_law_787 {b Ln : Nat} {xs : Nat → Int32} {g : mj_G} {nm : String} (hC : mj_C g ⟨R_law, nm, ""⟩ code 4 ret room_1) (hE : mj_EL g) (hSC : mj_SC g b Ln xs) {k18 : Nat → Nat → Int32 → mj_M → Prop} {f : Nat} (hk18 : ∀ (l1 : Nat) (l2 : Nat) (l3 : Int32) (M : mj_M) (k n : Nat), k + 2 * f ≤ 600000 → n + 52 * f ≤ 7302250 → k18 l1 l2 l3 M → mj_X g 18 [(0, vR (b + 1)), (1, vR l1), (2, vR l2), (3, vI l3)] [] M k n) (l1 : Nat) (l2 : Nat) (l3 : Int32) (M : mj_M) (k n : Nat) (hk : k + 2 * (f + 1) ≤ 600000) (hn : n + 52 * (f + 1) ≤ 7302250) (h : vb_L_law_787 k18 xs Ln l1 l2 l3 M) : mj_X g 787 [(0, vR (b + 1)), (1, vR l1), (2, vR l2), (3, vI l3)] [] M k n := by
  simp only [vb_L_law_787] at h
  refine mx_aload_n (j := 1) hC dL_law_787 rfl rfl ?_
  refine mx_aload_n (j := 0) hC dL_law_788 rfl rfl ?_
  refine mx_iload_n (j := 3) hC dL_law_789 rfl rfl ?_
  refine mx_iconst (v := 1) hC dL_law_790 (by decide) ?_
  refine mx_iadd hC dL_law_791 ?_
  obtain ⟨hi135, h⟩ := h
  refine mx_sld hC hSC hi135 dL_law_792 ?_
  obtain ⟨ht136, h⟩ := h
  refine mx_callV (inj := mj_jI) (As := [vI (xs (l3 + 1 : Int32).toNatClampNeg)]) (st := []) hC (ct_X11_say l1 (xs (l3 + 1 : Int32).toNatClampNeg) M _ h) ty_X11_say tw561 ht136 rfl (Nat.le_of_ble_eq_true rfl) ⟨rfl, rfl, ⟨by decide, by decide⟩, by show _ ≤ 600000; omega, by show _ ≤ 7302250; omega⟩ dL_law_793 (fun r137 M138 h => ?_)
  show mj_X g 796 [(0, vR ((b + 1))), (1, vR l1), (2, vR l2), (3, vI l3)] [vI r137] M138 k n
  refine mx_aload_n (j := 2) hC dL_law_796 rfl rfl ?_
  refine mx_aload_n (j := 0) hC dL_law_797 rfl rfl ?_
  refine mx_iload_n (j := 3) hC dL_law_798 rfl rfl ?_
  refine mx_iconst (v := 1) hC dL_law_799 (by decide) ?_
  refine mx_iadd hC dL_law_800 ?_
  refine mx_sld hC hSC hi135 dL_law_801 ?_
  obtain ⟨ht139, h⟩ := h
  refine mx_callV (inj := mj_jI) (As := [vI (xs (l3 + 1 : Int32).toNatClampNeg)]) (st := [vI r137]) hC (ct_X12_say l2 (xs (l3 + 1 : Int32).toNatClampNeg) M138 _ h) ty_X12_say tw1520 ht139 rfl (Nat.le_of_ble_eq_true rfl) ⟨rfl, rfl, ⟨by decide, by decide⟩, by show _ ≤ 600000; omega, by show _ ≤ 7302250; omega⟩ dL_law_802 (fun r140 M141 h => ?_)
  show mj_X g 805 [(0, vR ((b + 1))), (1, vR l1), (2, vR l2), (3, vI l3)] [vI r140, vI r137] M141 k n
  refine mx_icmpeq (tgt := 1834) hC dL_law_805 (by decide) (fun hc142 => ?_) (fun hc142 => ?_)
  · replace h := mj_yy hc142 h
    refine mx_sub (L' := [(0, vR (b + 1)), (1, vR l1), (2, vR l2), (3, vI l3)]) [0, 1, 2, 3] rfl ?_
    exact show mj_X g 1834 [(0, vR (b + 1)), (1, vR l1), (2, vR l2), (3, vI l3)] [] M141 k n from (xb_L_law_1834 (f := f) hC hE hSC hk18 l1 l2 l3 M141 _ _ (by omega) (by omega) h)
  · replace h := mj_nn hc142 h
    refine mx_iconst (v := 0) hC dL_law_808 (by decide) ?_
    exact h.elim
set_option maxHeartbeats 4000000 in
set_option maxRecDepth 100000 in
theorem xb_L_law_810 {b Ln : Nat} {xs : Nat → Int32} {g : mj_G} {nm : String} (hC : mj_C g ⟨R_law, nm, ""⟩ code 4 ret room_1) (hE : mj_EL g) (hSC : mj_SC g b Ln xs) {k18 : Nat → Nat → Int32 → mj_M → Prop} {f : Nat} (hk18 : ∀ (l1 : Nat) (l2 : Nat) (l3 : Int32) (M : mj_M) (k n : Nat), k + 2 * f ≤ 600000 → n + 52 * f ≤ 7302250 → k18 l1 l2 l3 M → mj_X g 18 [(0, vR (b + 1)), (1, vR l1), (2, vR l2), (3, vI l3)] [] M k n) (l1 : Nat) (l2 : Nat) (l3 : Int32) (M : mj_M) (k n : Nat) (hk : k + 2 * (f + 1) ≤ 600000) (hn : n + 52 * (f + 1) ≤ 7302250) (h : vb_L_law_810 k18 xs Ln l1 l2 l3 M) : mj_X g 810 [(0, vR (b + 1)), (1, vR l1), (2, vR l2), (3, vI l3)] [] M k n := by
  simp only [vb_L_law_810] at h
  refine mx_aload_n (j := 1) hC dL_law_810 rfl rfl ?_
  obtain ⟨ht143, h⟩ := h
  refine mx_callV (inj := mj_jI) (As := []) (st := []) hC (ct_X11_wipe l1 M _ h) ty_X11_wipe tw572 ht143 rfl (Nat.le_of_ble_eq_true rfl) ⟨rfl, rfl, ⟨by decide, by decide⟩, by show _ ≤ 600000; omega, by show _ ≤ 7302250; omega⟩ dL_law_811 (fun r144 M145 h => ?_)
  show mj_X g 814 [(0, vR ((b + 1))), (1, vR l1), (2, vR l2), (3, vI l3)] [vI r144] M145 k n
  refine mx_aload_n (j := 2) hC dL_law_814 rfl rfl ?_
  obtain ⟨ht146, h⟩ := h
  refine mx_callV (inj := mj_jI) (As := []) (st := [vI r144]) hC (ct_X12_wipe l2 M145 _ h) ty_X12_wipe tw1526 ht146 rfl (Nat.le_of_ble_eq_true rfl) ⟨rfl, rfl, ⟨by decide, by decide⟩, by show _ ≤ 600000; omega, by show _ ≤ 7302250; omega⟩ dL_law_815 (fun r147 M148 h => ?_)
  show mj_X g 818 [(0, vR ((b + 1))), (1, vR l1), (2, vR l2), (3, vI l3)] [vI r147, vI r144] M148 k n
  refine mx_icmpeq (tgt := 1834) hC dL_law_818 (by decide) (fun hc149 => ?_) (fun hc149 => ?_)
  · replace h := mj_yy hc149 h
    refine mx_sub (L' := [(0, vR (b + 1)), (1, vR l1), (2, vR l2), (3, vI l3)]) [0, 1, 2, 3] rfl ?_
    exact show mj_X g 1834 [(0, vR (b + 1)), (1, vR l1), (2, vR l2), (3, vI l3)] [] M148 k n from (xb_L_law_1834 (f := f) hC hE hSC hk18 l1 l2 l3 M148 _ _ (by omega) (by omega) h)
  · replace h := mj_nn hc149 h
    refine mx_iconst (v := 0) hC dL_law_821 (by decide) ?_
    exact h.elim
set_option maxHeartbeats 4000000 in
set_option maxRecDepth 100000 in
theorem xb_L_law_823 {b Ln : Nat} {xs : Nat → Int32} {g : mj_G} {nm : String} (hC : mj_C g ⟨R_law, nm, ""⟩ code 4 ret room_1) (hE : mj_EL g) (hSC : mj_SC g b Ln xs) {k18 : Nat → Nat → Int32 → mj_M → Prop} {f : Nat} (hk18 : ∀ (l1 : Nat) (l2 : Nat) (l3 : Int32) (M : mj_M) (k n : Nat), k + 2 * f ≤ 600000 → n + 52 * f ≤ 7302250 → k18 l1 l2 l3 M → mj_X g 18 [(0, vR (b + 1)), (1, vR l1), (2, vR l2), (3, vI l3)] [] M k n) (l1 : Nat) (l2 : Nat) (l3 : Int32) (M : mj_M) (k n : Nat) (hk : k + 2 * (f + 1) ≤ 600000) (hn : n + 52 * (f + 1) ≤ 7302250) (h : vb_L_law_823 k18 xs Ln l1 l2 l3 M) : mj_X g 823 [(0, vR (b + 1)), (1, vR l1), (2, vR l2), (3, vI l3)] [] M k n := by
  simp only [vb_L_law_823] at h
  refine mx_aload_n (j := 1) hC dL_law_823 rfl rfl ?_
  obtain ⟨ht150, h⟩ := h
  refine mx_callV (inj := mj_jI) (As := []) (st := []) hC (ct_X11_fault l1 M _ h) ty_X11_fault tw576 ht150 rfl (Nat.le_of_ble_eq_true rfl) ⟨rfl, rfl, ⟨by decide, by decide⟩, by show _ ≤ 600000; omega, by show _ ≤ 7302250; omega⟩ dL_law_824 (fun r151 M152 h => ?_)
  show mj_X g 827 [(0, vR ((b + 1))), (1, vR l1), (2, vR l2), (3, vI l3)] [vI r151] M152 k n
  refine mx_aload_n (j := 2) hC dL_law_827 rfl rfl ?_
  obtain ⟨ht153, h⟩ := h
  refine mx_callV (inj := mj_jI) (As := []) (st := [vI r151]) hC (ct_X12_fault l2 M152 _ h) ty_X12_fault tw1530 ht153 rfl (Nat.le_of_ble_eq_true rfl) ⟨rfl, rfl, ⟨by decide, by decide⟩, by show _ ≤ 600000; omega, by show _ ≤ 7302250; omega⟩ dL_law_828 (fun r154 M155 h => ?_)
  show mj_X g 831 [(0, vR ((b + 1))), (1, vR l1), (2, vR l2), (3, vI l3)] [vI r154, vI r151] M155 k n
  refine mx_icmpeq (tgt := 1834) hC dL_law_831 (by decide) (fun hc156 => ?_) (fun hc156 => ?_)
  · replace h := mj_yy hc156 h
    refine mx_sub (L' := [(0, vR (b + 1)), (1, vR l1), (2, vR l2), (3, vI l3)]) [0, 1, 2, 3] rfl ?_
    exact show mj_X g 1834 [(0, vR (b + 1)), (1, vR l1), (2, vR l2), (3, vI l3)] [] M155 k n from (xb_L_law_1834 (f := f) hC hE hSC hk18 l1 l2 l3 M155 _ _ (by omega) (by omega) h)
  · replace h := mj_nn hc156 h
    refine mx_iconst (v := 0) hC dL_law_834 (by decide) ?_
    exact h.elim
set_option maxHeartbeats 4000000 in
set_option maxRecDepth 100000 in
theorem xb_L_law_836 {b Ln : Nat} {xs : Nat → Int32} {g : mj_G} {nm : String} (hC : mj_C g ⟨R_law, nm, ""⟩ code 4 ret room_1) (hE : mj_EL g) (hSC : mj_SC g b Ln xs) {k18 : Nat → Nat → Int32 → mj_M → Prop} {f : Nat} (hk18 : ∀ (l1 : Nat) (l2 : Nat) (l3 : Int32) (M : mj_M) (k n : Nat), k + 2 * f ≤ 600000 → n + 52 * f ≤ 7302250 → k18 l1 l2 l3 M → mj_X g 18 [(0, vR (b + 1)), (1, vR l1), (2, vR l2), (3, vI l3)] [] M k n) (l1 : Nat) (l2 : Nat) (l3 : Int32) (M : mj_M) (k n : Nat) (hk : k + 2 * (f + 1) ≤ 600000) (hn : n + 52 * (f + 1) ≤ 7302250) (h : vb_L_law_836 k18 xs Ln l1 l2 l3 M) : mj_X g 836 [(0, vR (b + 1)), (1, vR l1), (2, vR l2), (3, vI l3)] [] M k n := by
  simp only [vb_L_law_836] at h
  refine mx_aload_n (j := 1) hC dL_law_836 rfl rfl ?_
  refine mx_aload_n (j := 0) hC dL_law_837 rfl rfl ?_
  refine mx_iload_n (j := 3) hC dL_law_838 rfl rfl ?_
  refine mx_iconst (v := 1) hC dL_law_839 (by decide) ?_
  refine mx_iadd hC dL_law_840 ?_
  obtain ⟨hi157, h⟩ := h
  refine mx_sld hC hSC hi157 dL_law_841 ?_
  refine mx_aload_n (j := 0) hC dL_law_842 rfl rfl ?_
  refine mx_iload_n (j := 3) hC dL_law_843 rfl rfl ?_
  refine mx_iconst (v := 2) hC dL_law_844 (by decide) ?_
  refine mx_iadd hC dL_law_845 ?_
  obtain ⟨hi158, h⟩ := h
  refine mx_sld hC hSC hi158 dL_law_846 ?_
  obtain ⟨ht159, h⟩ := h
  refine mx_callV (inj := mj_jI) (As := [vI (xs (l3 + 1 : Int32).toNatClampNeg), vI (xs (l3 + 2 : Int32).toNatClampNeg)]) (st := []) hC (ct_X11_act l1 (xs (l3 + 1 : Int32).toNatClampNeg) (xs (l3 + 2 : Int32).toNatClampNeg) M _ h) ty_X11_act tw709 ht159 rfl (Nat.le_of_ble_eq_true rfl) ⟨rfl, rfl, ⟨by decide, by decide⟩, by show _ ≤ 600000; omega, by show _ ≤ 7302250; omega⟩ dL_law_847 (fun r160 M161 h => ?_)
  show mj_X g 850 [(0, vR ((b + 1))), (1, vR l1), (2, vR l2), (3, vI l3)] [vI r160] M161 (k + 2) (n + 52)
  refine mx_aload_n (j := 2) hC dL_law_850 rfl rfl ?_
  refine mx_aload_n (j := 0) hC dL_law_851 rfl rfl ?_
  refine mx_iload_n (j := 3) hC dL_law_852 rfl rfl ?_
  refine mx_iconst (v := 1) hC dL_law_853 (by decide) ?_
  refine mx_iadd hC dL_law_854 ?_
  refine mx_sld hC hSC hi157 dL_law_855 ?_
  refine mx_aload_n (j := 0) hC dL_law_856 rfl rfl ?_
  refine mx_iload_n (j := 3) hC dL_law_857 rfl rfl ?_
  refine mx_iconst (v := 2) hC dL_law_858 (by decide) ?_
  refine mx_iadd hC dL_law_859 ?_
  refine mx_sld hC hSC hi158 dL_law_860 ?_
  obtain ⟨ht162, h⟩ := h
  refine mx_callV (inj := mj_jI) (As := [vI (xs (l3 + 1 : Int32).toNatClampNeg), vI (xs (l3 + 2 : Int32).toNatClampNeg)]) (st := [vI r160]) hC (ct_X12_act l2 (xs (l3 + 1 : Int32).toNatClampNeg) (xs (l3 + 2 : Int32).toNatClampNeg) M161 _ h) ty_X12_act tw1549 ht162 rfl (Nat.le_of_ble_eq_true rfl) ⟨rfl, rfl, ⟨by decide, by decide⟩, by show _ ≤ 600000; omega, by show _ ≤ 7302250; omega⟩ dL_law_861 (fun r163 M164 h => ?_)
  show mj_X g 864 [(0, vR ((b + 1))), (1, vR l1), (2, vR l2), (3, vI l3)] [vI r163, vI r160] M164 (k + 2) (n + 52)
  refine mx_icmpeq (tgt := 1834) hC dL_law_864 (by decide) (fun hc165 => ?_) (fun hc165 => ?_)
  · replace h := mj_yy hc165 h
    refine mx_sub (L' := [(0, vR (b + 1)), (1, vR l1), (2, vR l2), (3, vI l3)]) [0, 1, 2, 3] rfl ?_
    exact show mj_X g 1834 [(0, vR (b + 1)), (1, vR l1), (2, vR l2), (3, vI l3)] [] M164 (k + 2) (n + 52) from (xb_L_law_1834 (f := f) hC hE hSC hk18 l1 l2 l3 M164 _ _ (by omega) (by omega) h)
  · replace h := mj_nn hc165 h
    refine mx_iconst (v := 0) hC dL_law_867 (by decide) ?_
    exact h.elim
set_option maxHeartbeats 4000000 in
set_option maxRecDepth 100000 in
theorem xb_L_law_869 {b Ln : Nat} {xs : Nat → Int32} {g : mj_G} {nm : String} (hC : mj_C g ⟨R_law, nm, ""⟩ code 4 ret room_1) (hE : mj_EL g) (hSC : mj_SC g b Ln xs) {k18 : Nat → Nat → Int32 → mj_M → Prop} {f : Nat} (hk18 : ∀ (l1 : Nat) (l2 : Nat) (l3 : Int32) (M : mj_M) (k n : Nat), k + 2 * f ≤ 600000 → n + 52 * f ≤ 7302250 → k18 l1 l2 l3 M → mj_X g 18 [(0, vR (b + 1)), (1, vR l1), (2, vR l2), (3, vI l3)] [] M k n) (l1 : Nat) (l2 : Nat) (l3 : Int32) (M : mj_M) (k n : Nat) (hk : k + 2 * (f + 1) ≤ 600000) (hn : n + 52 * (f + 1) ≤ 7302250) (h : vb_L_law_869 k18 xs Ln l1 l2 l3 M) : mj_X g 869 [(0, vR (b + 1)), (1, vR l1), (2, vR l2), (3, vI l3)] [] M k n := by
  simp only [vb_L_law_869] at h
  refine mx_aload_n (j := 1) hC dL_law_869 rfl rfl ?_
  refine mx_aload_n (j := 0) hC dL_law_870 rfl rfl ?_
  refine mx_iload_n (j := 3) hC dL_law_871 rfl rfl ?_
  refine mx_iconst (v := 1) hC dL_law_872 (by decide) ?_
  refine mx_iadd hC dL_law_873 ?_
  obtain ⟨hi166, h⟩ := h
  refine mx_sld hC hSC hi166 dL_law_874 ?_
  refine mx_aload_n (j := 0) hC dL_law_875 rfl rfl ?_
  refine mx_iload_n (j := 3) hC dL_law_876 rfl rfl ?_
  refine mx_iconst (v := 2) hC dL_law_877 (by decide) ?_
  refine mx_iadd hC dL_law_878 ?_
  obtain ⟨hi167, h⟩ := h
  refine mx_sld hC hSC hi167 dL_law_879 ?_
  obtain ⟨ht168, h⟩ := h
  refine mx_callV (inj := mj_jI) (As := [vI (xs (l3 + 1 : Int32).toNatClampNeg), vI (xs (l3 + 2 : Int32).toNatClampNeg)]) (st := []) hC (ct_X11_right l1 (xs (l3 + 1 : Int32).toNatClampNeg) (xs (l3 + 2 : Int32).toNatClampNeg) M _ h) ty_X11_right tw757 ht168 rfl (Nat.le_of_ble_eq_true rfl) ⟨rfl, rfl, ⟨by decide, by decide⟩, by show _ ≤ 600000; omega, by show _ ≤ 7302250; omega⟩ dL_law_880 (fun r169 M170 h => ?_)
  show mj_X g 883 [(0, vR ((b + 1))), (1, vR l1), (2, vR l2), (3, vI l3)] [vI r169] M170 k n
  refine mx_aload_n (j := 2) hC dL_law_883 rfl rfl ?_
  refine mx_aload_n (j := 0) hC dL_law_884 rfl rfl ?_
  refine mx_iload_n (j := 3) hC dL_law_885 rfl rfl ?_
  refine mx_iconst (v := 1) hC dL_law_886 (by decide) ?_
  refine mx_iadd hC dL_law_887 ?_
  refine mx_sld hC hSC hi166 dL_law_888 ?_
  refine mx_aload_n (j := 0) hC dL_law_889 rfl rfl ?_
  refine mx_iload_n (j := 3) hC dL_law_890 rfl rfl ?_
  refine mx_iconst (v := 2) hC dL_law_891 (by decide) ?_
  refine mx_iadd hC dL_law_892 ?_
  refine mx_sld hC hSC hi167 dL_law_893 ?_
  obtain ⟨ht171, h⟩ := h
  refine mx_callV (inj := mj_jI) (As := [vI (xs (l3 + 1 : Int32).toNatClampNeg), vI (xs (l3 + 2 : Int32).toNatClampNeg)]) (st := [vI r169]) hC (ct_X12_right l2 (xs (l3 + 1 : Int32).toNatClampNeg) (xs (l3 + 2 : Int32).toNatClampNeg) M170 _ h) ty_X12_right tw1557 ht171 rfl (Nat.le_of_ble_eq_true rfl) ⟨rfl, rfl, ⟨by decide, by decide⟩, by show _ ≤ 600000; omega, by show _ ≤ 7302250; omega⟩ dL_law_894 (fun r172 M173 h => ?_)
  show mj_X g 897 [(0, vR ((b + 1))), (1, vR l1), (2, vR l2), (3, vI l3)] [vI r172, vI r169] M173 k n
  refine mx_icmpeq (tgt := 1834) hC dL_law_897 (by decide) (fun hc174 => ?_) (fun hc174 => ?_)
  · replace h := mj_yy hc174 h
    refine mx_sub (L' := [(0, vR (b + 1)), (1, vR l1), (2, vR l2), (3, vI l3)]) [0, 1, 2, 3] rfl ?_
    exact show mj_X g 1834 [(0, vR (b + 1)), (1, vR l1), (2, vR l2), (3, vI l3)] [] M173 k n from (xb_L_law_1834 (f := f) hC hE hSC hk18 l1 l2 l3 M173 _ _ (by omega) (by omega) h)
  · replace h := mj_nn hc174 h
    refine mx_iconst (v := 0) hC dL_law_900 (by decide) ?_
    exact h.elim
set_option maxHeartbeats 4000000 in
set_option maxRecDepth 100000 in
theorem xb_L_law_902 {b Ln : Nat} {xs : Nat → Int32} {g : mj_G} {nm : String} (hC : mj_C g ⟨R_law, nm, ""⟩ code 4 ret room_1) (hE : mj_EL g) (hSC : mj_SC g b Ln xs) {k18 : Nat → Nat → Int32 → mj_M → Prop} {f : Nat} (hk18 : ∀ (l1 : Nat) (l2 : Nat) (l3 : Int32) (M : mj_M) (k n : Nat), k + 2 * f ≤ 600000 → n + 52 * f ≤ 7302250 → k18 l1 l2 l3 M → mj_X g 18 [(0, vR (b + 1)), (1, vR l1), (2, vR l2), (3, vI l3)] [] M k n) (l1 : Nat) (l2 : Nat) (l3 : Int32) (M : mj_M) (k n : Nat) (hk : k + 2 * (f + 1) ≤ 600000) (hn : n + 52 * (f + 1) ≤ 7302250) (h : vb_L_law_902 k18 xs Ln l1 l2 l3 M) : mj_X g 902 [(0, vR (b + 1)), (1, vR l1), (2, vR l2), (3, vI l3)] [] M k n := by
  simp only [vb_L_law_902] at h
  refine mx_aload_n (j := 1) hC dL_law_902 rfl rfl ?_
  refine mx_aload_n (j := 0) hC dL_law_903 rfl rfl ?_
  refine mx_iload_n (j := 3) hC dL_law_904 rfl rfl ?_
  refine mx_iconst (v := 1) hC dL_law_905 (by decide) ?_
  refine mx_iadd hC dL_law_906 ?_
  obtain ⟨hi175, h⟩ := h
  refine mx_sld hC hSC hi175 dL_law_907 ?_
  refine mx_aload_n (j := 0) hC dL_law_908 rfl rfl ?_
  refine mx_iload_n (j := 3) hC dL_law_909 rfl rfl ?_
  refine mx_iconst (v := 2) hC dL_law_910 (by decide) ?_
  refine mx_iadd hC dL_law_911 ?_
  obtain ⟨hi176, h⟩ := h
  refine mx_sld hC hSC hi176 dL_law_912 ?_
  obtain ⟨ht177, h⟩ := h
  refine mx_callV (inj := mj_jI) (As := [vI (xs (l3 + 1 : Int32).toNatClampNeg), vI (xs (l3 + 2 : Int32).toNatClampNeg)]) (st := []) hC (ct_X11_decisive l1 (xs (l3 + 1 : Int32).toNatClampNeg) (xs (l3 + 2 : Int32).toNatClampNeg) M _ h) ty_X11_decisive tw820 ht177 rfl (Nat.le_of_ble_eq_true rfl) ⟨rfl, rfl, ⟨by decide, by decide⟩, by show _ ≤ 600000; omega, by show _ ≤ 7302250; omega⟩ dL_law_913 (fun r178 M179 h => ?_)
  show mj_X g 916 [(0, vR ((b + 1))), (1, vR l1), (2, vR l2), (3, vI l3)] [vI r178] M179 k n
  refine mx_aload_n (j := 2) hC dL_law_916 rfl rfl ?_
  refine mx_aload_n (j := 0) hC dL_law_917 rfl rfl ?_
  refine mx_iload_n (j := 3) hC dL_law_918 rfl rfl ?_
  refine mx_iconst (v := 1) hC dL_law_919 (by decide) ?_
  refine mx_iadd hC dL_law_920 ?_
  refine mx_sld hC hSC hi175 dL_law_921 ?_
  refine mx_aload_n (j := 0) hC dL_law_922 rfl rfl ?_
  refine mx_iload_n (j := 3) hC dL_law_923 rfl rfl ?_
  refine mx_iconst (v := 2) hC dL_law_924 (by decide) ?_
  refine mx_iadd hC dL_law_925 ?_
  refine mx_sld hC hSC hi176 dL_law_926 ?_
  obtain ⟨ht180, h⟩ := h
  refine mx_callV (inj := mj_jI) (As := [vI (xs (l3 + 1 : Int32).toNatClampNeg), vI (xs (l3 + 2 : Int32).toNatClampNeg)]) (st := [vI r178]) hC (ct_X12_decisive l2 (xs (l3 + 1 : Int32).toNatClampNeg) (xs (l3 + 2 : Int32).toNatClampNeg) M179 _ h) ty_X12_decisive tw1592 ht180 rfl (Nat.le_of_ble_eq_true rfl) ⟨rfl, rfl, ⟨by decide, by decide⟩, by show _ ≤ 600000; omega, by show _ ≤ 7302250; omega⟩ dL_law_927 (fun r181 M182 h => ?_)
  show mj_X g 930 [(0, vR ((b + 1))), (1, vR l1), (2, vR l2), (3, vI l3)] [vI r181, vI r178] M182 k n
  refine mx_icmpeq (tgt := 1834) hC dL_law_930 (by decide) (fun hc183 => ?_) (fun hc183 => ?_)
  · replace h := mj_yy hc183 h
    refine mx_sub (L' := [(0, vR (b + 1)), (1, vR l1), (2, vR l2), (3, vI l3)]) [0, 1, 2, 3] rfl ?_
    exact show mj_X g 1834 [(0, vR (b + 1)), (1, vR l1), (2, vR l2), (3, vI l3)] [] M182 k n from (xb_L_law_1834 (f := f) hC hE hSC hk18 l1 l2 l3 M182 _ _ (by omega) (by omega) h)
  · replace h := mj_nn hc183 h
    refine mx_iconst (v := 0) hC dL_law_933 (by decide) ?_
    exact h.elim
set_option maxHeartbeats 4000000 in
set_option maxRecDepth 100000 in
theorem xb_L_law_935 {b Ln : Nat} {xs : Nat → Int32} {g : mj_G} {nm : String} (hC : mj_C g ⟨R_law, nm, ""⟩ code 4 ret room_1) (hE : mj_EL g) (hSC : mj_SC g b Ln xs) {k18 : Nat → Nat → Int32 → mj_M → Prop} {f : Nat} (hk18 : ∀ (l1 : Nat) (l2 : Nat) (l3 : Int32) (M : mj_M) (k n : Nat), k + 2 * f ≤ 600000 → n + 52 * f ≤ 7302250 → k18 l1 l2 l3 M → mj_X g 18 [(0, vR (b + 1)), (1, vR l1), (2, vR l2), (3, vI l3)] [] M k n) (l1 : Nat) (l2 : Nat) (l3 : Int32) (M : mj_M) (k n : Nat) (hk : k + 2 * (f + 1) ≤ 600000) (hn : n + 52 * (f + 1) ≤ 7302250) (h : vb_L_law_935 k18 xs Ln l1 l2 l3 M) : mj_X g 935 [(0, vR (b + 1)), (1, vR l1), (2, vR l2), (3, vI l3)] [] M k n := by
  simp only [vb_L_law_935] at h
  refine mx_aload_n (j := 1) hC dL_law_935 rfl rfl ?_
  refine mx_aload_n (j := 0) hC dL_law_936 rfl rfl ?_
  refine mx_iload_n (j := 3) hC dL_law_937 rfl rfl ?_
  refine mx_iconst (v := 1) hC dL_law_938 (by decide) ?_
  refine mx_iadd hC dL_law_939 ?_
  obtain ⟨hi184, h⟩ := h
  refine mx_sld hC hSC hi184 dL_law_940 ?_
  refine mx_aload_n (j := 0) hC dL_law_941 rfl rfl ?_
  refine mx_iload_n (j := 3) hC dL_law_942 rfl rfl ?_
  refine mx_iconst (v := 2) hC dL_law_943 (by decide) ?_
  refine mx_iadd hC dL_law_944 ?_
  obtain ⟨hi185, h⟩ := h
  refine mx_sld hC hSC hi185 dL_law_945 ?_
  obtain ⟨ht186, h⟩ := h
  refine mx_callV (inj := mj_jI) (As := [vI (xs (l3 + 1 : Int32).toNatClampNeg), vI (xs (l3 + 2 : Int32).toNatClampNeg)]) (st := []) hC (ct_X11_fact l1 (xs (l3 + 1 : Int32).toNatClampNeg) (xs (l3 + 2 : Int32).toNatClampNeg) M _ h) ty_X11_fact tw824 ht186 rfl (Nat.le_of_ble_eq_true rfl) ⟨rfl, rfl, ⟨by decide, by decide⟩, by show _ ≤ 600000; omega, by show _ ≤ 7302250; omega⟩ dL_law_946 (fun r187 M188 h => ?_)
  show mj_X g 949 [(0, vR ((b + 1))), (1, vR l1), (2, vR l2), (3, vI l3)] [vI r187] M188 k n
  refine mx_aload_n (j := 2) hC dL_law_949 rfl rfl ?_
  refine mx_aload_n (j := 0) hC dL_law_950 rfl rfl ?_
  refine mx_iload_n (j := 3) hC dL_law_951 rfl rfl ?_
  refine mx_iconst (v := 1) hC dL_law_952 (by decide) ?_
  refine mx_iadd hC dL_law_953 ?_
  refine mx_sld hC hSC hi184 dL_law_954 ?_
  refine mx_aload_n (j := 0) hC dL_law_955 rfl rfl ?_
  refine mx_iload_n (j := 3) hC dL_law_956 rfl rfl ?_
  refine mx_iconst (v := 2) hC dL_law_957 (by decide) ?_
  refine mx_iadd hC dL_law_958 ?_
  refine mx_sld hC hSC hi185 dL_law_959 ?_
  obtain ⟨ht189, h⟩ := h
  refine mx_callV (inj := mj_jI) (As := [vI (xs (l3 + 1 : Int32).toNatClampNeg), vI (xs (l3 + 2 : Int32).toNatClampNeg)]) (st := [vI r187]) hC (ct_X12_fact l2 (xs (l3 + 1 : Int32).toNatClampNeg) (xs (l3 + 2 : Int32).toNatClampNeg) M188 _ h) ty_X12_fact tw1596 ht189 rfl (Nat.le_of_ble_eq_true rfl) ⟨rfl, rfl, ⟨by decide, by decide⟩, by show _ ≤ 600000; omega, by show _ ≤ 7302250; omega⟩ dL_law_960 (fun r190 M191 h => ?_)
  show mj_X g 963 [(0, vR ((b + 1))), (1, vR l1), (2, vR l2), (3, vI l3)] [vI r190, vI r187] M191 k n
  refine mx_icmpeq (tgt := 1834) hC dL_law_963 (by decide) (fun hc192 => ?_) (fun hc192 => ?_)
  · replace h := mj_yy hc192 h
    refine mx_sub (L' := [(0, vR (b + 1)), (1, vR l1), (2, vR l2), (3, vI l3)]) [0, 1, 2, 3] rfl ?_
    exact show mj_X g 1834 [(0, vR (b + 1)), (1, vR l1), (2, vR l2), (3, vI l3)] [] M191 k n from (xb_L_law_1834 (f := f) hC hE hSC hk18 l1 l2 l3 M191 _ _ (by omega) (by omega) h)
  · replace h := mj_nn hc192 h
    refine mx_iconst (v := 0) hC dL_law_966 (by decide) ?_
    exact h.elim
set_option maxHeartbeats 4000000 in
set_option maxRecDepth 100000 in
theorem xb_L_law_968 {b Ln : Nat} {xs : Nat → Int32} {g : mj_G} {nm : String} (hC : mj_C g ⟨R_law, nm, ""⟩ code 4 ret room_1) (hE : mj_EL g) (hSC : mj_SC g b Ln xs) {k18 : Nat → Nat → Int32 → mj_M → Prop} {f : Nat} (hk18 : ∀ (l1 : Nat) (l2 : Nat) (l3 : Int32) (M : mj_M) (k n : Nat), k + 2 * f ≤ 600000 → n + 52 * f ≤ 7302250 → k18 l1 l2 l3 M → mj_X g 18 [(0, vR (b + 1)), (1, vR l1), (2, vR l2), (3, vI l3)] [] M k n) (l1 : Nat) (l2 : Nat) (l3 : Int32) (M : mj_M) (k n : Nat) (hk : k + 2 * (f + 1) ≤ 600000) (hn : n + 52 * (f + 1) ≤ 7302250) (h : vb_L_law_968 k18 xs Ln l1 l2 l3 M) : mj_X g 968 [(0, vR (b + 1)), (1, vR l1), (2, vR l2), (3, vI l3)] [] M k n := by
  simp only [vb_L_law_968] at h
  refine mx_aload_n (j := 1) hC dL_law_968 rfl rfl ?_
  refine mx_aload_n (j := 0) hC dL_law_969 rfl rfl ?_
  refine mx_iload_n (j := 3) hC dL_law_970 rfl rfl ?_
  refine mx_iconst (v := 1) hC dL_law_971 (by decide) ?_
  refine mx_iadd hC dL_law_972 ?_
  obtain ⟨hi193, h⟩ := h
  refine mx_sld hC hSC hi193 dL_law_973 ?_
  refine mx_aload_n (j := 0) hC dL_law_974 rfl rfl ?_
  refine mx_iload_n (j := 3) hC dL_law_975 rfl rfl ?_
  refine mx_iconst (v := 2) hC dL_law_976 (by decide) ?_
  refine mx_iadd hC dL_law_977 ?_
  obtain ⟨hi194, h⟩ := h
  refine mx_sld hC hSC hi194 dL_law_978 ?_
  obtain ⟨ht195, h⟩ := h
  refine mx_callV (inj := mj_jI) (As := [vI (xs (l3 + 1 : Int32).toNatClampNeg), vI (xs (l3 + 2 : Int32).toNatClampNeg)]) (st := []) hC (ct_X11_first l1 (xs (l3 + 1 : Int32).toNatClampNeg) (xs (l3 + 2 : Int32).toNatClampNeg) M _ h) ty_X11_first tw830 ht195 rfl (Nat.le_of_ble_eq_true rfl) ⟨rfl, rfl, ⟨by decide, by decide⟩, by show _ ≤ 600000; omega, by show _ ≤ 7302250; omega⟩ dL_law_979 (fun r196 M197 h => ?_)
  show mj_X g 982 [(0, vR ((b + 1))), (1, vR l1), (2, vR l2), (3, vI l3)] [vI r196] M197 k n
  refine mx_aload_n (j := 2) hC dL_law_982 rfl rfl ?_
  refine mx_aload_n (j := 0) hC dL_law_983 rfl rfl ?_
  refine mx_iload_n (j := 3) hC dL_law_984 rfl rfl ?_
  refine mx_iconst (v := 1) hC dL_law_985 (by decide) ?_
  refine mx_iadd hC dL_law_986 ?_
  refine mx_sld hC hSC hi193 dL_law_987 ?_
  refine mx_aload_n (j := 0) hC dL_law_988 rfl rfl ?_
  refine mx_iload_n (j := 3) hC dL_law_989 rfl rfl ?_
  refine mx_iconst (v := 2) hC dL_law_990 (by decide) ?_
  refine mx_iadd hC dL_law_991 ?_
  refine mx_sld hC hSC hi194 dL_law_992 ?_
  obtain ⟨ht198, h⟩ := h
  refine mx_callV (inj := mj_jI) (As := [vI (xs (l3 + 1 : Int32).toNatClampNeg), vI (xs (l3 + 2 : Int32).toNatClampNeg)]) (st := [vI r196]) hC (ct_X12_first l2 (xs (l3 + 1 : Int32).toNatClampNeg) (xs (l3 + 2 : Int32).toNatClampNeg) M197 _ h) ty_X12_first tw1600 ht198 rfl (Nat.le_of_ble_eq_true rfl) ⟨rfl, rfl, ⟨by decide, by decide⟩, by show _ ≤ 600000; omega, by show _ ≤ 7302250; omega⟩ dL_law_993 (fun r199 M200 h => ?_)
  show mj_X g 996 [(0, vR ((b + 1))), (1, vR l1), (2, vR l2), (3, vI l3)] [vI r199, vI r196] M200 k n
  refine mx_icmpeq (tgt := 1834) hC dL_law_996 (by decide) (fun hc201 => ?_) (fun hc201 => ?_)
  · replace h := mj_yy hc201 h
    refine mx_sub (L' := [(0, vR (b + 1)), (1, vR l1), (2, vR l2), (3, vI l3)]) [0, 1, 2, 3] rfl ?_
    exact show mj_X g 1834 [(0, vR (b + 1)), (1, vR l1), (2, vR l2), (3, vI l3)] [] M200 k n from (xb_L_law_1834 (f := f) hC hE hSC hk18 l1 l2 l3 M200 _ _ (by omega) (by omega) h)
  · replace h := mj_nn hc201 h
    refine mx_iconst (v := 0) hC dL_law_999 (by decide) ?_
    exact h.elim
set_option maxHeartbeats 4000000 in
set_option maxRecDepth 100000 in
theorem xb_L_law_1001 {b Ln : Nat} {xs : Nat → Int32} {g : mj_G} {nm : String} (hC : mj_C g ⟨R_law, nm, ""⟩ code 4 ret room_1) (hE : mj_EL g) (hSC : mj_SC g b Ln xs) {k18 : Nat → Nat → Int32 → mj_M → Prop} {f : Nat} (hk18 : ∀ (l1 : Nat) (l2 : Nat) (l3 : Int32) (M : mj_M) (k n : Nat), k + 2 * f ≤ 600000 → n + 52 * f ≤ 7302250 → k18 l1 l2 l3 M → mj_X g 18 [(0, vR (b + 1)), (1, vR l1), (2, vR l2), (3, vI l3)] [] M k n) (l1 : Nat) (l2 : Nat) (l3 : Int32) (M : mj_M) (k n : Nat) (hk : k + 2 * (f + 1) ≤ 600000) (hn : n + 52 * (f + 1) ≤ 7302250) (h : vb_L_law_1001 k18 xs Ln l1 l2 l3 M) : mj_X g 1001 [(0, vR (b + 1)), (1, vR l1), (2, vR l2), (3, vI l3)] [] M k n := by
  simp only [vb_L_law_1001] at h
  refine mx_aload_n (j := 1) hC dL_law_1001 rfl rfl ?_
  refine mx_aload_n (j := 0) hC dL_law_1002 rfl rfl ?_
  refine mx_iload_n (j := 3) hC dL_law_1003 rfl rfl ?_
  refine mx_iconst (v := 1) hC dL_law_1004 (by decide) ?_
  refine mx_iadd hC dL_law_1005 ?_
  obtain ⟨hi202, h⟩ := h
  refine mx_sld hC hSC hi202 dL_law_1006 ?_
  refine mx_aload_n (j := 0) hC dL_law_1007 rfl rfl ?_
  refine mx_iload_n (j := 3) hC dL_law_1008 rfl rfl ?_
  refine mx_iconst (v := 2) hC dL_law_1009 (by decide) ?_
  refine mx_iadd hC dL_law_1010 ?_
  obtain ⟨hi203, h⟩ := h
  refine mx_sld hC hSC hi203 dL_law_1011 ?_
  obtain ⟨ht204, h⟩ := h
  refine mx_callV (inj := mj_jI) (As := [vI (xs (l3 + 1 : Int32).toNatClampNeg), vI (xs (l3 + 2 : Int32).toNatClampNeg)]) (st := []) hC (ct_X11_notice l1 (xs (l3 + 1 : Int32).toNatClampNeg) (xs (l3 + 2 : Int32).toNatClampNeg) M _ h) ty_X11_notice tw840 ht204 rfl (Nat.le_of_ble_eq_true rfl) ⟨rfl, rfl, ⟨by decide, by decide⟩, by show _ ≤ 600000; omega, by show _ ≤ 7302250; omega⟩ dL_law_1012 (fun r205 M206 h => ?_)
  show mj_X g 1015 [(0, vR ((b + 1))), (1, vR l1), (2, vR l2), (3, vI l3)] [vI r205] M206 (k + 1) (n + 7)
  refine mx_aload_n (j := 2) hC dL_law_1015 rfl rfl ?_
  refine mx_aload_n (j := 0) hC dL_law_1016 rfl rfl ?_
  refine mx_iload_n (j := 3) hC dL_law_1017 rfl rfl ?_
  refine mx_iconst (v := 1) hC dL_law_1018 (by decide) ?_
  refine mx_iadd hC dL_law_1019 ?_
  refine mx_sld hC hSC hi202 dL_law_1020 ?_
  refine mx_aload_n (j := 0) hC dL_law_1021 rfl rfl ?_
  refine mx_iload_n (j := 3) hC dL_law_1022 rfl rfl ?_
  refine mx_iconst (v := 2) hC dL_law_1023 (by decide) ?_
  refine mx_iadd hC dL_law_1024 ?_
  refine mx_sld hC hSC hi203 dL_law_1025 ?_
  obtain ⟨ht207, h⟩ := h
  refine mx_callV (inj := mj_jI) (As := [vI (xs (l3 + 1 : Int32).toNatClampNeg), vI (xs (l3 + 2 : Int32).toNatClampNeg)]) (st := [vI r205]) hC (ct_X12_notice l2 (xs (l3 + 1 : Int32).toNatClampNeg) (xs (l3 + 2 : Int32).toNatClampNeg) M206 _ h) ty_X12_notice tw1604 ht207 rfl (Nat.le_of_ble_eq_true rfl) ⟨rfl, rfl, ⟨by decide, by decide⟩, by show _ ≤ 600000; omega, by show _ ≤ 7302250; omega⟩ dL_law_1026 (fun r208 M209 h => ?_)
  show mj_X g 1029 [(0, vR ((b + 1))), (1, vR l1), (2, vR l2), (3, vI l3)] [vI r208, vI r205] M209 (k + 1) (n + 7)
  refine mx_icmpeq (tgt := 1834) hC dL_law_1029 (by decide) (fun hc210 => ?_) (fun hc210 => ?_)
  · replace h := mj_yy hc210 h
    refine mx_sub (L' := [(0, vR (b + 1)), (1, vR l1), (2, vR l2), (3, vI l3)]) [0, 1, 2, 3] rfl ?_
    exact show mj_X g 1834 [(0, vR (b + 1)), (1, vR l1), (2, vR l2), (3, vI l3)] [] M209 (k + 1) (n + 7) from (xb_L_law_1834 (f := f) hC hE hSC hk18 l1 l2 l3 M209 _ _ (by omega) (by omega) h)
  · replace h := mj_nn hc210 h
    refine mx_iconst (v := 0) hC dL_law_1032 (by decide) ?_
    exact h.elim
set_option maxHeartbeats 4000000 in
set_option maxRecDepth 100000 in
theorem xb_L_law_1075 {b Ln : Nat} {xs : Nat → Int32} {g : mj_G} {nm : String} (hC : mj_C g ⟨R_law, nm, ""⟩ code 4 ret room_1) (hE : mj_EL g) (hSC : mj_SC g b Ln xs) {k18 : Nat → Nat → Int32 → mj_M → Prop} {f : Nat} (hk18 : ∀ (l1 : Nat) (l2 : Nat) (l3 : Int32) (M : mj_M) (k n : Nat), k + 2 * f ≤ 600000 → n + 52 * f ≤ 7302250 → k18 l1 l2 l3 M → mj_X g 18 [(0, vR (b + 1)), (1, vR l1), (2, vR l2), (3, vI l3)] [] M k n) (l1 : Nat) (l2 : Nat) (l3 : Int32) (s0 : Int32) (s1 : Nat) (s2 : Int32) (s3 : Bool) (M : mj_M) (k n : Nat) (hk : k + 2 * (f + 1) ≤ 600000) (hn : n + 52 * (f + 1) ≤ 7302250) (h : vb_L_law_1075 k18 xs Ln l1 l2 l3 s0 s1 s2 s3 M) : mj_X g 1075 [(0, vR (b + 1)), (1, vR l1), (2, vR l2), (3, vI l3)] [vI (mj_b s3), vI s2, vR s1, vI s0] M k n := by
  simp only [vb_L_law_1075] at h
  obtain ⟨ht211, h⟩ := h
  refine mx_callV (inj := mj_jI) (As := [vI s2, vI (mj_b s3)]) (st := [vI s0]) hC (ct_X12_answer s1 s2 s3 M _ h) ty_X12_answer tw1616 ht211 rfl (Nat.le_of_ble_eq_true rfl) ⟨rfl, rfl, ⟨by decide, by decide⟩, by show _ ≤ 600000; omega, by show _ ≤ 7302250; omega⟩ dL_law_1075 (fun r212 M213 h => ?_)
  show mj_X g 1078 [(0, vR ((b + 1))), (1, vR l1), (2, vR l2), (3, vI l3)] [vI r212, vI s0] M213 k n
  refine mx_icmpeq (tgt := 1834) hC dL_law_1078 (by decide) (fun hc214 => ?_) (fun hc214 => ?_)
  · replace h := mj_yy hc214 h
    refine mx_sub (L' := [(0, vR (b + 1)), (1, vR l1), (2, vR l2), (3, vI l3)]) [0, 1, 2, 3] rfl ?_
    exact show mj_X g 1834 [(0, vR (b + 1)), (1, vR l1), (2, vR l2), (3, vI l3)] [] M213 k n from (xb_L_law_1834 (f := f) hC hE hSC hk18 l1 l2 l3 M213 _ _ (by omega) (by omega) h)
  · replace h := mj_nn hc214 h
    refine mx_iconst (v := 0) hC dL_law_1081 (by decide) ?_
    exact h.elim
set_option maxHeartbeats 4000000 in
set_option maxRecDepth 100000 in
theorem xb_L_law_1053 {b Ln : Nat} {xs : Nat → Int32} {g : mj_G} {nm : String} (hC : mj_C g ⟨R_law, nm, ""⟩ code 4 ret room_1) (hE : mj_EL g) (hSC : mj_SC g b Ln xs) {k18 : Nat → Nat → Int32 → mj_M → Prop} {f : Nat} (hk18 : ∀ (l1 : Nat) (l2 : Nat) (l3 : Int32) (M : mj_M) (k n : Nat), k + 2 * f ≤ 600000 → n + 52 * f ≤ 7302250 → k18 l1 l2 l3 M → mj_X g 18 [(0, vR (b + 1)), (1, vR l1), (2, vR l2), (3, vI l3)] [] M k n) (l1 : Nat) (l2 : Nat) (l3 : Int32) (s0 : Nat) (s1 : Int32) (s2 : Bool) (M : mj_M) (k n : Nat) (hk : k + 2 * (f + 1) ≤ 600000) (hn : n + 52 * (f + 1) ≤ 7302250) (h : vb_L_law_1053 k18 xs Ln l1 l2 l3 s0 s1 s2 M) : mj_X g 1053 [(0, vR (b + 1)), (1, vR l1), (2, vR l2), (3, vI l3)] [vI (mj_b s2), vI s1, vR s0] M k n := by
  simp only [vb_L_law_1053] at h
  obtain ⟨ht215, h⟩ := h
  refine mx_callV (inj := mj_jI) (As := [vI s1, vI (mj_b s2)]) (st := []) hC (ct_X11_answer s0 s1 s2 M _ h) ty_X11_answer tw896 ht215 rfl (Nat.le_of_ble_eq_true rfl) ⟨rfl, rfl, ⟨by decide, by decide⟩, by show _ ≤ 600000; omega, by show _ ≤ 7302250; omega⟩ dL_law_1053 (fun r216 M217 h => ?_)
  show mj_X g 1056 [(0, vR ((b + 1))), (1, vR l1), (2, vR l2), (3, vI l3)] [vI r216] M217 k n
  refine mx_aload_n (j := 2) hC dL_law_1056 rfl rfl ?_
  refine mx_aload_n (j := 0) hC dL_law_1057 rfl rfl ?_
  refine mx_iload_n (j := 3) hC dL_law_1058 rfl rfl ?_
  refine mx_iconst (v := 1) hC dL_law_1059 (by decide) ?_
  refine mx_iadd hC dL_law_1060 ?_
  obtain ⟨hi218, h⟩ := h
  refine mx_sld hC hSC hi218 dL_law_1061 ?_
  refine mx_aload_n (j := 0) hC dL_law_1062 rfl rfl ?_
  refine mx_iload_n (j := 3) hC dL_law_1063 rfl rfl ?_
  refine mx_iconst (v := 2) hC dL_law_1064 (by decide) ?_
  refine mx_iadd hC dL_law_1065 ?_
  obtain ⟨hi219, h⟩ := h
  refine mx_sld hC hSC hi219 dL_law_1066 ?_
  refine mx_ifeq (tgt := 1074) hC dL_law_1067 (by decide) (fun hc220 => ?_) (fun hc220 => ?_)
  · replace h := mj_yy hc220 h
    refine mx_iconst (v := 0) hC dL_law_1074 (by decide) ?_
    refine mx_sub (L' := [(0, vR (b + 1)), (1, vR l1), (2, vR l2), (3, vI l3)]) [0, 1, 2, 3] rfl ?_
    exact show mj_X g 1075 [(0, vR (b + 1)), (1, vR l1), (2, vR l2), (3, vI l3)] [vI (mj_b false), vI (xs (l3 + 1 : Int32).toNatClampNeg), vR l2, vI r216] M217 k n from (xb_L_law_1075 (f := f) hC hE hSC hk18 l1 l2 l3 r216 l2 (xs (l3 + 1 : Int32).toNatClampNeg) false M217 _ _ (by omega) (by omega) h)
  · replace h := mj_nn hc220 h
    refine mx_iconst (v := 1) hC dL_law_1070 (by decide) ?_
    refine mx_goto (tgt := 1075) hC dL_law_1071 (by decide) ?_
    refine mx_sub (L' := [(0, vR (b + 1)), (1, vR l1), (2, vR l2), (3, vI l3)]) [0, 1, 2, 3] rfl ?_
    exact show mj_X g 1075 [(0, vR (b + 1)), (1, vR l1), (2, vR l2), (3, vI l3)] [vI (mj_b true), vI (xs (l3 + 1 : Int32).toNatClampNeg), vR l2, vI r216] M217 k n from (xb_L_law_1075 (f := f) hC hE hSC hk18 l1 l2 l3 r216 l2 (xs (l3 + 1 : Int32).toNatClampNeg) true M217 _ _ (by omega) (by omega) h)
set_option maxHeartbeats 4000000 in
set_option maxRecDepth 100000 in
theorem xb_L_law_1034 {b Ln : Nat} {xs : Nat → Int32} {g : mj_G} {nm : String} (hC : mj_C g ⟨R_law, nm, ""⟩ code 4 ret room_1) (hE : mj_EL g) (hSC : mj_SC g b Ln xs) {k18 : Nat → Nat → Int32 → mj_M → Prop} {f : Nat} (hk18 : ∀ (l1 : Nat) (l2 : Nat) (l3 : Int32) (M : mj_M) (k n : Nat), k + 2 * f ≤ 600000 → n + 52 * f ≤ 7302250 → k18 l1 l2 l3 M → mj_X g 18 [(0, vR (b + 1)), (1, vR l1), (2, vR l2), (3, vI l3)] [] M k n) (l1 : Nat) (l2 : Nat) (l3 : Int32) (M : mj_M) (k n : Nat) (hk : k + 2 * (f + 1) ≤ 600000) (hn : n + 52 * (f + 1) ≤ 7302250) (h : vb_L_law_1034 k18 xs Ln l1 l2 l3 M) : mj_X g 1034 [(0, vR (b + 1)), (1, vR l1), (2, vR l2), (3, vI l3)] [] M k n := by
  simp only [vb_L_law_1034] at h
  refine mx_aload_n (j := 1) hC dL_law_1034 rfl rfl ?_
  refine mx_aload_n (j := 0) hC dL_law_1035 rfl rfl ?_
  refine mx_iload_n (j := 3) hC dL_law_1036 rfl rfl ?_
  refine mx_iconst (v := 1) hC dL_law_1037 (by decide) ?_
  refine mx_iadd hC dL_law_1038 ?_
  obtain ⟨hi221, h⟩ := h
  refine mx_sld hC hSC hi221 dL_law_1039 ?_
  refine mx_aload_n (j := 0) hC dL_law_1040 rfl rfl ?_
  refine mx_iload_n (j := 3) hC dL_law_1041 rfl rfl ?_
  refine mx_iconst (v := 2) hC dL_law_1042 (by decide) ?_
  refine mx_iadd hC dL_law_1043 ?_
  obtain ⟨hi222, h⟩ := h
  refine mx_sld hC hSC hi222 dL_law_1044 ?_
  refine mx_ifeq (tgt := 1052) hC dL_law_1045 (by decide) (fun hc223 => ?_) (fun hc223 => ?_)
  · replace h := mj_yy hc223 h
    refine mx_iconst (v := 0) hC dL_law_1052 (by decide) ?_
    refine mx_sub (L' := [(0, vR (b + 1)), (1, vR l1), (2, vR l2), (3, vI l3)]) [0, 1, 2, 3] rfl ?_
    exact show mj_X g 1053 [(0, vR (b + 1)), (1, vR l1), (2, vR l2), (3, vI l3)] [vI (mj_b false), vI (xs (l3 + 1 : Int32).toNatClampNeg), vR l1] M k n from (xb_L_law_1053 (f := f) hC hE hSC hk18 l1 l2 l3 l1 (xs (l3 + 1 : Int32).toNatClampNeg) false M _ _ (by omega) (by omega) h)
  · replace h := mj_nn hc223 h
    refine mx_iconst (v := 1) hC dL_law_1048 (by decide) ?_
    refine mx_goto (tgt := 1053) hC dL_law_1049 (by decide) ?_
    refine mx_sub (L' := [(0, vR (b + 1)), (1, vR l1), (2, vR l2), (3, vI l3)]) [0, 1, 2, 3] rfl ?_
    exact show mj_X g 1053 [(0, vR (b + 1)), (1, vR l1), (2, vR l2), (3, vI l3)] [vI (mj_b true), vI (xs (l3 + 1 : Int32).toNatClampNeg), vR l1] M k n from (xb_L_law_1053 (f := f) hC hE hSC hk18 l1 l2 l3 l1 (xs (l3 + 1 : Int32).toNatClampNeg) true M _ _ (by omega) (by omega) h)
set_option maxHeartbeats 4000000 in
set_option maxRecDepth 100000 in
theorem xb_L_law_1083 {b Ln : Nat} {xs : Nat → Int32} {g : mj_G} {nm : String} (hC : mj_C g ⟨R_law, nm, ""⟩ code 4 ret room_1) (hE : mj_EL g) (hSC : mj_SC g b Ln xs) {k18 : Nat → Nat → Int32 → mj_M → Prop} {f : Nat} (hk18 : ∀ (l1 : Nat) (l2 : Nat) (l3 : Int32) (M : mj_M) (k n : Nat), k + 2 * f ≤ 600000 → n + 52 * f ≤ 7302250 → k18 l1 l2 l3 M → mj_X g 18 [(0, vR (b + 1)), (1, vR l1), (2, vR l2), (3, vI l3)] [] M k n) (l1 : Nat) (l2 : Nat) (l3 : Int32) (M : mj_M) (k n : Nat) (hk : k + 2 * (f + 1) ≤ 600000) (hn : n + 52 * (f + 1) ≤ 7302250) (h : vb_L_law_1083 k18 xs Ln l1 l2 l3 M) : mj_X g 1083 [(0, vR (b + 1)), (1, vR l1), (2, vR l2), (3, vI l3)] [] M k n := by
  simp only [vb_L_law_1083] at h
  refine mx_aload_n (j := 1) hC dL_law_1083 rfl rfl ?_
  refine mx_aload_n (j := 0) hC dL_law_1084 rfl rfl ?_
  refine mx_iload_n (j := 3) hC dL_law_1085 rfl rfl ?_
  refine mx_iconst (v := 1) hC dL_law_1086 (by decide) ?_
  refine mx_iadd hC dL_law_1087 ?_
  obtain ⟨hi224, h⟩ := h
  refine mx_sld hC hSC hi224 dL_law_1088 ?_
  obtain ⟨ht225, h⟩ := h
  refine mx_callV (inj := mj_jI) (As := [vI (xs (l3 + 1 : Int32).toNatClampNeg)]) (st := []) hC (ct_X11_withdraw l1 (xs (l3 + 1 : Int32).toNatClampNeg) M _ h) ty_X11_withdraw tw909 ht225 rfl (Nat.le_of_ble_eq_true rfl) ⟨rfl, rfl, ⟨by decide, by decide⟩, by show _ ≤ 600000; omega, by show _ ≤ 7302250; omega⟩ dL_law_1089 (fun r226 M227 h => ?_)
  show mj_X g 1092 [(0, vR ((b + 1))), (1, vR l1), (2, vR l2), (3, vI l3)] [vI r226] M227 k n
  refine mx_aload_n (j := 2) hC dL_law_1092 rfl rfl ?_
  refine mx_aload_n (j := 0) hC dL_law_1093 rfl rfl ?_
  refine mx_iload_n (j := 3) hC dL_law_1094 rfl rfl ?_
  refine mx_iconst (v := 1) hC dL_law_1095 (by decide) ?_
  refine mx_iadd hC dL_law_1096 ?_
  refine mx_sld hC hSC hi224 dL_law_1097 ?_
  obtain ⟨ht228, h⟩ := h
  refine mx_callV (inj := mj_jI) (As := [vI (xs (l3 + 1 : Int32).toNatClampNeg)]) (st := [vI r226]) hC (ct_X12_withdraw l2 (xs (l3 + 1 : Int32).toNatClampNeg) M227 _ h) ty_X12_withdraw tw1624 ht228 rfl (Nat.le_of_ble_eq_true rfl) ⟨rfl, rfl, ⟨by decide, by decide⟩, by show _ ≤ 600000; omega, by show _ ≤ 7302250; omega⟩ dL_law_1098 (fun r229 M230 h => ?_)
  show mj_X g 1101 [(0, vR ((b + 1))), (1, vR l1), (2, vR l2), (3, vI l3)] [vI r229, vI r226] M230 k n
  refine mx_icmpeq (tgt := 1834) hC dL_law_1101 (by decide) (fun hc231 => ?_) (fun hc231 => ?_)
  · replace h := mj_yy hc231 h
    refine mx_sub (L' := [(0, vR (b + 1)), (1, vR l1), (2, vR l2), (3, vI l3)]) [0, 1, 2, 3] rfl ?_
    exact show mj_X g 1834 [(0, vR (b + 1)), (1, vR l1), (2, vR l2), (3, vI l3)] [] M230 k n from (xb_L_law_1834 (f := f) hC hE hSC hk18 l1 l2 l3 M230 _ _ (by omega) (by omega) h)
  · replace h := mj_nn hc231 h
    refine mx_iconst (v := 0) hC dL_law_1104 (by decide) ?_
    exact h.elim
set_option maxHeartbeats 4000000 in
set_option maxRecDepth 100000 in
theorem xb_L_law_1147 {b Ln : Nat} {xs : Nat → Int32} {g : mj_G} {nm : String} (hC : mj_C g ⟨R_law, nm, ""⟩ code 4 ret room_1) (hE : mj_EL g) (hSC : mj_SC g b Ln xs) {k18 : Nat → Nat → Int32 → mj_M → Prop} {f : Nat} (hk18 : ∀ (l1 : Nat) (l2 : Nat) (l3 : Int32) (M : mj_M) (k n : Nat), k + 2 * f ≤ 600000 → n + 52 * f ≤ 7302250 → k18 l1 l2 l3 M → mj_X g 18 [(0, vR (b + 1)), (1, vR l1), (2, vR l2), (3, vI l3)] [] M k n) (l1 : Nat) (l2 : Nat) (l3 : Int32) (s0 : Int32) (s1 : Nat) (s2 : Int32) (s3 : Bool) (M : mj_M) (k n : Nat) (hk : k + 2 * (f + 1) ≤ 600000) (hn : n + 52 * (f + 1) ≤ 7302250) (h : vb_L_law_1147 k18 xs Ln l1 l2 l3 s0 s1 s2 s3 M) : mj_X g 1147 [(0, vR (b + 1)), (1, vR l1), (2, vR l2), (3, vI l3)] [vI (mj_b s3), vI s2, vR s1, vI s0] M k n := by
  simp only [vb_L_law_1147] at h
  obtain ⟨ht232, h⟩ := h
  refine mx_callV (inj := mj_jI) (As := [vI s2, vI (mj_b s3)]) (st := [vI s0]) hC (ct_X12_tribunal s1 s2 s3 M _ h) ty_X12_tribunal tw1628 ht232 rfl (Nat.le_of_ble_eq_true rfl) ⟨rfl, rfl, ⟨by decide, by decide⟩, by show _ ≤ 600000; omega, by show _ ≤ 7302250; omega⟩ dL_law_1147 (fun r233 M234 h => ?_)
  show mj_X g 1150 [(0, vR ((b + 1))), (1, vR l1), (2, vR l2), (3, vI l3)] [vI r233, vI s0] M234 k n
  refine mx_icmpeq (tgt := 1834) hC dL_law_1150 (by decide) (fun hc235 => ?_) (fun hc235 => ?_)
  · replace h := mj_yy hc235 h
    refine mx_sub (L' := [(0, vR (b + 1)), (1, vR l1), (2, vR l2), (3, vI l3)]) [0, 1, 2, 3] rfl ?_
    exact show mj_X g 1834 [(0, vR (b + 1)), (1, vR l1), (2, vR l2), (3, vI l3)] [] M234 k n from (xb_L_law_1834 (f := f) hC hE hSC hk18 l1 l2 l3 M234 _ _ (by omega) (by omega) h)
  · replace h := mj_nn hc235 h
    refine mx_iconst (v := 0) hC dL_law_1153 (by decide) ?_
    exact h.elim
set_option maxHeartbeats 4000000 in
set_option maxRecDepth 100000 in
theorem xb_L_law_1125 {b Ln : Nat} {xs : Nat → Int32} {g : mj_G} {nm : String} (hC : mj_C g ⟨R_law, nm, ""⟩ code 4 ret room_1) (hE : mj_EL g) (hSC : mj_SC g b Ln xs) {k18 : Nat → Nat → Int32 → mj_M → Prop} {f : Nat} (hk18 : ∀ (l1 : Nat) (l2 : Nat) (l3 : Int32) (M : mj_M) (k n : Nat), k + 2 * f ≤ 600000 → n + 52 * f ≤ 7302250 → k18 l1 l2 l3 M → mj_X g 18 [(0, vR (b + 1)), (1, vR l1), (2, vR l2), (3, vI l3)] [] M k n) (l1 : Nat) (l2 : Nat) (l3 : Int32) (s0 : Nat) (s1 : Int32) (s2 : Bool) (M : mj_M) (k n : Nat) (hk : k + 2 * (f + 1) ≤ 600000) (hn : n + 52 * (f + 1) ≤ 7302250) (h : vb_L_law_1125 k18 xs Ln l1 l2 l3 s0 s1 s2 M) : mj_X g 1125 [(0, vR (b + 1)), (1, vR l1), (2, vR l2), (3, vI l3)] [vI (mj_b s2), vI s1, vR s0] M k n := by
  simp only [vb_L_law_1125] at h
  obtain ⟨ht236, h⟩ := h
  refine mx_callV (inj := mj_jI) (As := [vI s1, vI (mj_b s2)]) (st := []) hC (ct_X11_tribunal s0 s1 s2 M _ h) ty_X11_tribunal tw914 ht236 rfl (Nat.le_of_ble_eq_true rfl) ⟨rfl, rfl, ⟨by decide, by decide⟩, by show _ ≤ 600000; omega, by show _ ≤ 7302250; omega⟩ dL_law_1125 (fun r237 M238 h => ?_)
  show mj_X g 1128 [(0, vR ((b + 1))), (1, vR l1), (2, vR l2), (3, vI l3)] [vI r237] M238 k n
  refine mx_aload_n (j := 2) hC dL_law_1128 rfl rfl ?_
  refine mx_aload_n (j := 0) hC dL_law_1129 rfl rfl ?_
  refine mx_iload_n (j := 3) hC dL_law_1130 rfl rfl ?_
  refine mx_iconst (v := 1) hC dL_law_1131 (by decide) ?_
  refine mx_iadd hC dL_law_1132 ?_
  obtain ⟨hi239, h⟩ := h
  refine mx_sld hC hSC hi239 dL_law_1133 ?_
  refine mx_aload_n (j := 0) hC dL_law_1134 rfl rfl ?_
  refine mx_iload_n (j := 3) hC dL_law_1135 rfl rfl ?_
  refine mx_iconst (v := 2) hC dL_law_1136 (by decide) ?_
  refine mx_iadd hC dL_law_1137 ?_
  obtain ⟨hi240, h⟩ := h
  refine mx_sld hC hSC hi240 dL_law_1138 ?_
  refine mx_ifeq (tgt := 1146) hC dL_law_1139 (by decide) (fun hc241 => ?_) (fun hc241 => ?_)
  · replace h := mj_yy hc241 h
    refine mx_iconst (v := 0) hC dL_law_1146 (by decide) ?_
    refine mx_sub (L' := [(0, vR (b + 1)), (1, vR l1), (2, vR l2), (3, vI l3)]) [0, 1, 2, 3] rfl ?_
    exact show mj_X g 1147 [(0, vR (b + 1)), (1, vR l1), (2, vR l2), (3, vI l3)] [vI (mj_b false), vI (xs (l3 + 1 : Int32).toNatClampNeg), vR l2, vI r237] M238 k n from (xb_L_law_1147 (f := f) hC hE hSC hk18 l1 l2 l3 r237 l2 (xs (l3 + 1 : Int32).toNatClampNeg) false M238 _ _ (by omega) (by omega) h)
  · replace h := mj_nn hc241 h
    refine mx_iconst (v := 1) hC dL_law_1142 (by decide) ?_
    refine mx_goto (tgt := 1147) hC dL_law_1143 (by decide) ?_
    refine mx_sub (L' := [(0, vR (b + 1)), (1, vR l1), (2, vR l2), (3, vI l3)]) [0, 1, 2, 3] rfl ?_
    exact show mj_X g 1147 [(0, vR (b + 1)), (1, vR l1), (2, vR l2), (3, vI l3)] [vI (mj_b true), vI (xs (l3 + 1 : Int32).toNatClampNeg), vR l2, vI r237] M238 k n from (xb_L_law_1147 (f := f) hC hE hSC hk18 l1 l2 l3 r237 l2 (xs (l3 + 1 : Int32).toNatClampNeg) true M238 _ _ (by omega) (by omega) h)
set_option maxHeartbeats 4000000 in
set_option maxRecDepth 100000 in
theorem xb_L_law_1106 {b Ln : Nat} {xs : Nat → Int32} {g : mj_G} {nm : String} (hC : mj_C g ⟨R_law, nm, ""⟩ code 4 ret room_1) (hE : mj_EL g) (hSC : mj_SC g b Ln xs) {k18 : Nat → Nat → Int32 → mj_M → Prop} {f : Nat} (hk18 : ∀ (l1 : Nat) (l2 : Nat) (l3 : Int32) (M : mj_M) (k n : Nat), k + 2 * f ≤ 600000 → n + 52 * f ≤ 7302250 → k18 l1 l2 l3 M → mj_X g 18 [(0, vR (b + 1)), (1, vR l1), (2, vR l2), (3, vI l3)] [] M k n) (l1 : Nat) (l2 : Nat) (l3 : Int32) (M : mj_M) (k n : Nat) (hk : k + 2 * (f + 1) ≤ 600000) (hn : n + 52 * (f + 1) ≤ 7302250) (h : vb_L_law_1106 k18 xs Ln l1 l2 l3 M) : mj_X g 1106 [(0, vR (b + 1)), (1, vR l1), (2, vR l2), (3, vI l3)] [] M k n := by
  simp only [vb_L_law_1106] at h
  refine mx_aload_n (j := 1) hC dL_law_1106 rfl rfl ?_
  refine mx_aload_n (j := 0) hC dL_law_1107 rfl rfl ?_
  refine mx_iload_n (j := 3) hC dL_law_1108 rfl rfl ?_
  refine mx_iconst (v := 1) hC dL_law_1109 (by decide) ?_
  refine mx_iadd hC dL_law_1110 ?_
  obtain ⟨hi242, h⟩ := h
  refine mx_sld hC hSC hi242 dL_law_1111 ?_
  refine mx_aload_n (j := 0) hC dL_law_1112 rfl rfl ?_
  refine mx_iload_n (j := 3) hC dL_law_1113 rfl rfl ?_
  refine mx_iconst (v := 2) hC dL_law_1114 (by decide) ?_
  refine mx_iadd hC dL_law_1115 ?_
  obtain ⟨hi243, h⟩ := h
  refine mx_sld hC hSC hi243 dL_law_1116 ?_
  refine mx_ifeq (tgt := 1124) hC dL_law_1117 (by decide) (fun hc244 => ?_) (fun hc244 => ?_)
  · replace h := mj_yy hc244 h
    refine mx_iconst (v := 0) hC dL_law_1124 (by decide) ?_
    refine mx_sub (L' := [(0, vR (b + 1)), (1, vR l1), (2, vR l2), (3, vI l3)]) [0, 1, 2, 3] rfl ?_
    exact show mj_X g 1125 [(0, vR (b + 1)), (1, vR l1), (2, vR l2), (3, vI l3)] [vI (mj_b false), vI (xs (l3 + 1 : Int32).toNatClampNeg), vR l1] M k n from (xb_L_law_1125 (f := f) hC hE hSC hk18 l1 l2 l3 l1 (xs (l3 + 1 : Int32).toNatClampNeg) false M _ _ (by omega) (by omega) h)
  · replace h := mj_nn hc244 h
    refine mx_iconst (v := 1) hC dL_law_1120 (by decide) ?_
    refine mx_goto (tgt := 1125) hC dL_law_1121 (by decide) ?_
    refine mx_sub (L' := [(0, vR (b + 1)), (1, vR l1), (2, vR l2), (3, vI l3)]) [0, 1, 2, 3] rfl ?_
    exact show mj_X g 1125 [(0, vR (b + 1)), (1, vR l1), (2, vR l2), (3, vI l3)] [vI (mj_b true), vI (xs (l3 + 1 : Int32).toNatClampNeg), vR l1] M k n from (xb_L_law_1125 (f := f) hC hE hSC hk18 l1 l2 l3 l1 (xs (l3 + 1 : Int32).toNatClampNeg) true M _ _ (by omega) (by omega) h)
set_option maxHeartbeats 4000000 in
set_option maxRecDepth 100000 in
theorem xb_L_law_1155 {b Ln : Nat} {xs : Nat → Int32} {g : mj_G} {nm : String} (hC : mj_C g ⟨R_law, nm, ""⟩ code 4 ret room_1) (hE : mj_EL g) (hSC : mj_SC g b Ln xs) {k18 : Nat → Nat → Int32 → mj_M → Prop} {f : Nat} (hk18 : ∀ (l1 : Nat) (l2 : Nat) (l3 : Int32) (M : mj_M) (k n : Nat), k + 2 * f ≤ 600000 → n + 52 * f ≤ 7302250 → k18 l1 l2 l3 M → mj_X g 18 [(0, vR (b + 1)), (1, vR l1), (2, vR l2), (3, vI l3)] [] M k n) (l1 : Nat) (l2 : Nat) (l3 : Int32) (M : mj_M) (k n : Nat) (hk : k + 2 * (f + 1) ≤ 600000) (hn : n + 52 * (f + 1) ≤ 7302250) (h : vb_L_law_1155 k18 xs Ln l1 l2 l3 M) : mj_X g 1155 [(0, vR (b + 1)), (1, vR l1), (2, vR l2), (3, vI l3)] [] M k n := by
  simp only [vb_L_law_1155] at h
  refine mx_aload_n (j := 1) hC dL_law_1155 rfl rfl ?_
  refine mx_aload_n (j := 0) hC dL_law_1156 rfl rfl ?_
  refine mx_iload_n (j := 3) hC dL_law_1157 rfl rfl ?_
  refine mx_iconst (v := 1) hC dL_law_1158 (by decide) ?_
  refine mx_iadd hC dL_law_1159 ?_
  obtain ⟨hi245, h⟩ := h
  refine mx_sld hC hSC hi245 dL_law_1160 ?_
  obtain ⟨ht246, h⟩ := h
  refine mx_callV (inj := mj_jI) (As := [vI (xs (l3 + 1 : Int32).toNatClampNeg)]) (st := []) hC (ct_X11_status l1 (xs (l3 + 1 : Int32).toNatClampNeg) M _ h) ty_X11_status tw918 ht246 rfl (Nat.le_of_ble_eq_true rfl) ⟨rfl, rfl, ⟨by decide, by decide⟩, by show _ ≤ 600000; omega, by show _ ≤ 7302250; omega⟩ dL_law_1161 (fun r247 M248 h => ?_)
  show mj_X g 1164 [(0, vR ((b + 1))), (1, vR l1), (2, vR l2), (3, vI l3)] [vI r247] M248 k n
  refine mx_aload_n (j := 2) hC dL_law_1164 rfl rfl ?_
  refine mx_aload_n (j := 0) hC dL_law_1165 rfl rfl ?_
  refine mx_iload_n (j := 3) hC dL_law_1166 rfl rfl ?_
  refine mx_iconst (v := 1) hC dL_law_1167 (by decide) ?_
  refine mx_iadd hC dL_law_1168 ?_
  refine mx_sld hC hSC hi245 dL_law_1169 ?_
  obtain ⟨ht249, h⟩ := h
  refine mx_callV (inj := mj_jI) (As := [vI (xs (l3 + 1 : Int32).toNatClampNeg)]) (st := [vI r247]) hC (ct_X12_status l2 (xs (l3 + 1 : Int32).toNatClampNeg) M248 _ h) ty_X12_status tw1632 ht249 rfl (Nat.le_of_ble_eq_true rfl) ⟨rfl, rfl, ⟨by decide, by decide⟩, by show _ ≤ 600000; omega, by show _ ≤ 7302250; omega⟩ dL_law_1170 (fun r250 M251 h => ?_)
  show mj_X g 1173 [(0, vR ((b + 1))), (1, vR l1), (2, vR l2), (3, vI l3)] [vI r250, vI r247] M251 k n
  refine mx_icmpeq (tgt := 1834) hC dL_law_1173 (by decide) (fun hc252 => ?_) (fun hc252 => ?_)
  · replace h := mj_yy hc252 h
    refine mx_sub (L' := [(0, vR (b + 1)), (1, vR l1), (2, vR l2), (3, vI l3)]) [0, 1, 2, 3] rfl ?_
    exact show mj_X g 1834 [(0, vR (b + 1)), (1, vR l1), (2, vR l2), (3, vI l3)] [] M251 k n from (xb_L_law_1834 (f := f) hC hE hSC hk18 l1 l2 l3 M251 _ _ (by omega) (by omega) h)
  · replace h := mj_nn hc252 h
    refine mx_iconst (v := 0) hC dL_law_1176 (by decide) ?_
    exact h.elim
set_option maxHeartbeats 4000000 in
set_option maxRecDepth 100000 in
theorem xb_L_law_1178 {b Ln : Nat} {xs : Nat → Int32} {g : mj_G} {nm : String} (hC : mj_C g ⟨R_law, nm, ""⟩ code 4 ret room_1) (hE : mj_EL g) (hSC : mj_SC g b Ln xs) {k18 : Nat → Nat → Int32 → mj_M → Prop} {f : Nat} (hk18 : ∀ (l1 : Nat) (l2 : Nat) (l3 : Int32) (M : mj_M) (k n : Nat), k + 2 * f ≤ 600000 → n + 52 * f ≤ 7302250 → k18 l1 l2 l3 M → mj_X g 18 [(0, vR (b + 1)), (1, vR l1), (2, vR l2), (3, vI l3)] [] M k n) (l1 : Nat) (l2 : Nat) (l3 : Int32) (M : mj_M) (k n : Nat) (hk : k + 2 * (f + 1) ≤ 600000) (hn : n + 52 * (f + 1) ≤ 7302250) (h : vb_L_law_1178 k18 xs Ln l1 l2 l3 M) : mj_X g 1178 [(0, vR (b + 1)), (1, vR l1), (2, vR l2), (3, vI l3)] [] M k n := by
  simp only [vb_L_law_1178] at h
  refine mx_aload_n (j := 1) hC dL_law_1178 rfl rfl ?_
  refine mx_aload_n (j := 0) hC dL_law_1179 rfl rfl ?_
  refine mx_iload_n (j := 3) hC dL_law_1180 rfl rfl ?_
  refine mx_iconst (v := 1) hC dL_law_1181 (by decide) ?_
  refine mx_iadd hC dL_law_1182 ?_
  obtain ⟨hi253, h⟩ := h
  refine mx_sld hC hSC hi253 dL_law_1183 ?_
  obtain ⟨ht254, h⟩ := h
  refine mx_callV (inj := mj_jI) (As := [vI (xs (l3 + 1 : Int32).toNatClampNeg)]) (st := []) hC (ct_X11_carry l1 (xs (l3 + 1 : Int32).toNatClampNeg) M _ h) ty_X11_carry tw922 ht254 rfl (Nat.le_of_ble_eq_true rfl) ⟨rfl, rfl, ⟨by decide, by decide⟩, by show _ ≤ 600000; omega, by show _ ≤ 7302250; omega⟩ dL_law_1184 (fun r255 M256 h => ?_)
  show mj_X g 1187 [(0, vR ((b + 1))), (1, vR l1), (2, vR l2), (3, vI l3)] [vI r255] M256 k n
  refine mx_aload_n (j := 2) hC dL_law_1187 rfl rfl ?_
  refine mx_aload_n (j := 0) hC dL_law_1188 rfl rfl ?_
  refine mx_iload_n (j := 3) hC dL_law_1189 rfl rfl ?_
  refine mx_iconst (v := 1) hC dL_law_1190 (by decide) ?_
  refine mx_iadd hC dL_law_1191 ?_
  refine mx_sld hC hSC hi253 dL_law_1192 ?_
  obtain ⟨ht257, h⟩ := h
  refine mx_callV (inj := mj_jI) (As := [vI (xs (l3 + 1 : Int32).toNatClampNeg)]) (st := [vI r255]) hC (ct_X12_carry l2 (xs (l3 + 1 : Int32).toNatClampNeg) M256 _ h) ty_X12_carry tw1636 ht257 rfl (Nat.le_of_ble_eq_true rfl) ⟨rfl, rfl, ⟨by decide, by decide⟩, by show _ ≤ 600000; omega, by show _ ≤ 7302250; omega⟩ dL_law_1193 (fun r258 M259 h => ?_)
  show mj_X g 1196 [(0, vR ((b + 1))), (1, vR l1), (2, vR l2), (3, vI l3)] [vI r258, vI r255] M259 k n
  refine mx_icmpeq (tgt := 1834) hC dL_law_1196 (by decide) (fun hc260 => ?_) (fun hc260 => ?_)
  · replace h := mj_yy hc260 h
    refine mx_sub (L' := [(0, vR (b + 1)), (1, vR l1), (2, vR l2), (3, vI l3)]) [0, 1, 2, 3] rfl ?_
    exact show mj_X g 1834 [(0, vR (b + 1)), (1, vR l1), (2, vR l2), (3, vI l3)] [] M259 k n from (xb_L_law_1834 (f := f) hC hE hSC hk18 l1 l2 l3 M259 _ _ (by omega) (by omega) h)
  · replace h := mj_nn hc260 h
    refine mx_iconst (v := 0) hC dL_law_1199 (by decide) ?_
    exact h.elim
set_option maxHeartbeats 4000000 in
set_option maxRecDepth 100000 in
theorem xb_L_law_1201 {b Ln : Nat} {xs : Nat → Int32} {g : mj_G} {nm : String} (hC : mj_C g ⟨R_law, nm, ""⟩ code 4 ret room_1) (hE : mj_EL g) (hSC : mj_SC g b Ln xs) {k18 : Nat → Nat → Int32 → mj_M → Prop} {f : Nat} (hk18 : ∀ (l1 : Nat) (l2 : Nat) (l3 : Int32) (M : mj_M) (k n : Nat), k + 2 * f ≤ 600000 → n + 52 * f ≤ 7302250 → k18 l1 l2 l3 M → mj_X g 18 [(0, vR (b + 1)), (1, vR l1), (2, vR l2), (3, vI l3)] [] M k n) (l1 : Nat) (l2 : Nat) (l3 : Int32) (M : mj_M) (k n : Nat) (hk : k + 2 * (f + 1) ≤ 600000) (hn : n + 52 * (f + 1) ≤ 7302250) (h : vb_L_law_1201 k18 xs Ln l1 l2 l3 M) : mj_X g 1201 [(0, vR (b + 1)), (1, vR l1), (2, vR l2), (3, vI l3)] [] M k n := by
  simp only [vb_L_law_1201] at h
  refine mx_aload_n (j := 1) hC dL_law_1201 rfl rfl ?_
  refine mx_aload_n (j := 0) hC dL_law_1202 rfl rfl ?_
  refine mx_iload_n (j := 3) hC dL_law_1203 rfl rfl ?_
  refine mx_iconst (v := 1) hC dL_law_1204 (by decide) ?_
  refine mx_iadd hC dL_law_1205 ?_
  obtain ⟨hi261, h⟩ := h
  refine mx_sld hC hSC hi261 dL_law_1206 ?_
  obtain ⟨ht262, h⟩ := h
  refine mx_callV (inj := mj_jI) (As := [vI (xs (l3 + 1 : Int32).toNatClampNeg)]) (st := []) hC (ct_X11_stay l1 (xs (l3 + 1 : Int32).toNatClampNeg) M _ h) ty_X11_stay tw963 ht262 rfl (Nat.le_of_ble_eq_true rfl) ⟨rfl, rfl, ⟨by decide, by decide⟩, by show _ ≤ 600000; omega, by show _ ≤ 7302250; omega⟩ dL_law_1207 (fun r263 M264 h => ?_)
  show mj_X g 1210 [(0, vR ((b + 1))), (1, vR l1), (2, vR l2), (3, vI l3)] [vI r263] M264 k n
  refine mx_aload_n (j := 2) hC dL_law_1210 rfl rfl ?_
  refine mx_aload_n (j := 0) hC dL_law_1211 rfl rfl ?_
  refine mx_iload_n (j := 3) hC dL_law_1212 rfl rfl ?_
  refine mx_iconst (v := 1) hC dL_law_1213 (by decide) ?_
  refine mx_iadd hC dL_law_1214 ?_
  refine mx_sld hC hSC hi261 dL_law_1215 ?_
  obtain ⟨ht265, h⟩ := h
  refine mx_callV (inj := mj_jI) (As := [vI (xs (l3 + 1 : Int32).toNatClampNeg)]) (st := [vI r263]) hC (ct_X12_stay l2 (xs (l3 + 1 : Int32).toNatClampNeg) M264 _ h) ty_X12_stay tw1673 ht265 rfl (Nat.le_of_ble_eq_true rfl) ⟨rfl, rfl, ⟨by decide, by decide⟩, by show _ ≤ 600000; omega, by show _ ≤ 7302250; omega⟩ dL_law_1216 (fun r266 M267 h => ?_)
  show mj_X g 1219 [(0, vR ((b + 1))), (1, vR l1), (2, vR l2), (3, vI l3)] [vI r266, vI r263] M267 k n
  refine mx_icmpeq (tgt := 1834) hC dL_law_1219 (by decide) (fun hc268 => ?_) (fun hc268 => ?_)
  · replace h := mj_yy hc268 h
    refine mx_sub (L' := [(0, vR (b + 1)), (1, vR l1), (2, vR l2), (3, vI l3)]) [0, 1, 2, 3] rfl ?_
    exact show mj_X g 1834 [(0, vR (b + 1)), (1, vR l1), (2, vR l2), (3, vI l3)] [] M267 k n from (xb_L_law_1834 (f := f) hC hE hSC hk18 l1 l2 l3 M267 _ _ (by omega) (by omega) h)
  · replace h := mj_nn hc268 h
    refine mx_iconst (v := 0) hC dL_law_1222 (by decide) ?_
    exact h.elim
set_option maxHeartbeats 4000000 in
set_option maxRecDepth 100000 in
theorem xb_L_law_1224 {b Ln : Nat} {xs : Nat → Int32} {g : mj_G} {nm : String} (hC : mj_C g ⟨R_law, nm, ""⟩ code 4 ret room_1) (hE : mj_EL g) (hSC : mj_SC g b Ln xs) {k18 : Nat → Nat → Int32 → mj_M → Prop} {f : Nat} (hk18 : ∀ (l1 : Nat) (l2 : Nat) (l3 : Int32) (M : mj_M) (k n : Nat), k + 2 * f ≤ 600000 → n + 52 * f ≤ 7302250 → k18 l1 l2 l3 M → mj_X g 18 [(0, vR (b + 1)), (1, vR l1), (2, vR l2), (3, vI l3)] [] M k n) (l1 : Nat) (l2 : Nat) (l3 : Int32) (M : mj_M) (k n : Nat) (hk : k + 2 * (f + 1) ≤ 600000) (hn : n + 52 * (f + 1) ≤ 7302250) (h : vb_L_law_1224 k18 xs Ln l1 l2 l3 M) : mj_X g 1224 [(0, vR (b + 1)), (1, vR l1), (2, vR l2), (3, vI l3)] [] M k n := by
  simp only [vb_L_law_1224] at h
  refine mx_aload_n (j := 1) hC dL_law_1224 rfl rfl ?_
  refine mx_aload_n (j := 0) hC dL_law_1225 rfl rfl ?_
  refine mx_iload_n (j := 3) hC dL_law_1226 rfl rfl ?_
  refine mx_iconst (v := 1) hC dL_law_1227 (by decide) ?_
  refine mx_iadd hC dL_law_1228 ?_
  obtain ⟨hi269, h⟩ := h
  refine mx_sld hC hSC hi269 dL_law_1229 ?_
  refine mx_aload_n (j := 0) hC dL_law_1230 rfl rfl ?_
  refine mx_iload_n (j := 3) hC dL_law_1231 rfl rfl ?_
  refine mx_iconst (v := 2) hC dL_law_1232 (by decide) ?_
  refine mx_iadd hC dL_law_1233 ?_
  obtain ⟨hi270, h⟩ := h
  refine mx_sld hC hSC hi270 dL_law_1234 ?_
  obtain ⟨ht271, h⟩ := h
  refine mx_callV (inj := mj_jI) (As := [vI (xs (l3 + 1 : Int32).toNatClampNeg), vI (xs (l3 + 2 : Int32).toNatClampNeg)]) (st := []) hC (ct_X11_value l1 (xs (l3 + 1 : Int32).toNatClampNeg) (xs (l3 + 2 : Int32).toNatClampNeg) M _ h) ty_X11_value tw968 ht271 rfl (Nat.le_of_ble_eq_true rfl) ⟨rfl, rfl, ⟨by decide, by decide⟩, by show _ ≤ 600000; omega, by show _ ≤ 7302250; omega⟩ dL_law_1235 (fun r272 M273 h => ?_)
  show mj_X g 1238 [(0, vR ((b + 1))), (1, vR l1), (2, vR l2), (3, vI l3)] [vI r272] M273 k n
  refine mx_aload_n (j := 2) hC dL_law_1238 rfl rfl ?_
  refine mx_aload_n (j := 0) hC dL_law_1239 rfl rfl ?_
  refine mx_iload_n (j := 3) hC dL_law_1240 rfl rfl ?_
  refine mx_iconst (v := 1) hC dL_law_1241 (by decide) ?_
  refine mx_iadd hC dL_law_1242 ?_
  refine mx_sld hC hSC hi269 dL_law_1243 ?_
  refine mx_aload_n (j := 0) hC dL_law_1244 rfl rfl ?_
  refine mx_iload_n (j := 3) hC dL_law_1245 rfl rfl ?_
  refine mx_iconst (v := 2) hC dL_law_1246 (by decide) ?_
  refine mx_iadd hC dL_law_1247 ?_
  refine mx_sld hC hSC hi270 dL_law_1248 ?_
  obtain ⟨ht274, h⟩ := h
  refine mx_callV (inj := mj_jI) (As := [vI (xs (l3 + 1 : Int32).toNatClampNeg), vI (xs (l3 + 2 : Int32).toNatClampNeg)]) (st := [vI r272]) hC (ct_X12_value l2 (xs (l3 + 1 : Int32).toNatClampNeg) (xs (l3 + 2 : Int32).toNatClampNeg) M273 _ h) ty_X12_value tw1677 ht274 rfl (Nat.le_of_ble_eq_true rfl) ⟨rfl, rfl, ⟨by decide, by decide⟩, by show _ ≤ 600000; omega, by show _ ≤ 7302250; omega⟩ dL_law_1249 (fun r275 M276 h => ?_)
  show mj_X g 1252 [(0, vR ((b + 1))), (1, vR l1), (2, vR l2), (3, vI l3)] [vI r275, vI r272] M276 k n
  refine mx_icmpeq (tgt := 1834) hC dL_law_1252 (by decide) (fun hc277 => ?_) (fun hc277 => ?_)
  · replace h := mj_yy hc277 h
    refine mx_sub (L' := [(0, vR (b + 1)), (1, vR l1), (2, vR l2), (3, vI l3)]) [0, 1, 2, 3] rfl ?_
    exact show mj_X g 1834 [(0, vR (b + 1)), (1, vR l1), (2, vR l2), (3, vI l3)] [] M276 k n from (xb_L_law_1834 (f := f) hC hE hSC hk18 l1 l2 l3 M276 _ _ (by omega) (by omega) h)
  · replace h := mj_nn hc277 h
    refine mx_iconst (v := 0) hC dL_law_1255 (by decide) ?_
    exact h.elim
set_option maxHeartbeats 4000000 in
set_option maxRecDepth 100000 in
theorem xb_L_law_1257 {b Ln : Nat} {xs : Nat → Int32} {g : mj_G} {nm : String} (hC : mj_C g ⟨R_law, nm, ""⟩ code 4 ret room_1) (hE : mj_EL g) (hSC : mj_SC g b Ln xs) {k18 : Nat → Nat → Int32 → mj_M → Prop} {f : Nat} (hk18 : ∀ (l1 : Nat) (l2 : Nat) (l3 : Int32) (M : mj_M) (k n : Nat), k + 2 * f ≤ 600000 → n + 52 * f ≤ 7302250 → k18 l1 l2 l3 M → mj_X g 18 [(0, vR (b + 1)), (1, vR l1), (2, vR l2), (3, vI l3)] [] M k n) (l1 : Nat) (l2 : Nat) (l3 : Int32) (M : mj_M) (k n : Nat) (hk : k + 2 * (f + 1) ≤ 600000) (hn : n + 52 * (f + 1) ≤ 7302250) (h : vb_L_law_1257 k18 xs Ln l1 l2 l3 M) : mj_X g 1257 [(0, vR (b + 1)), (1, vR l1), (2, vR l2), (3, vI l3)] [] M k n := by
  simp only [vb_L_law_1257] at h
  refine mx_aload_n (j := 1) hC dL_law_1257 rfl rfl ?_
  refine mx_aload_n (j := 0) hC dL_law_1258 rfl rfl ?_
  refine mx_iload_n (j := 3) hC dL_law_1259 rfl rfl ?_
  refine mx_iconst (v := 1) hC dL_law_1260 (by decide) ?_
  refine mx_iadd hC dL_law_1261 ?_
  obtain ⟨hi278, h⟩ := h
  refine mx_sld hC hSC hi278 dL_law_1262 ?_
  refine mx_aload_n (j := 0) hC dL_law_1263 rfl rfl ?_
  refine mx_iload_n (j := 3) hC dL_law_1264 rfl rfl ?_
  refine mx_iconst (v := 2) hC dL_law_1265 (by decide) ?_
  refine mx_iadd hC dL_law_1266 ?_
  obtain ⟨hi279, h⟩ := h
  refine mx_sld hC hSC hi279 dL_law_1267 ?_
  obtain ⟨ht280, h⟩ := h
  refine mx_callV (inj := mj_jI) (As := [vI (xs (l3 + 1 : Int32).toNatClampNeg), vI (xs (l3 + 2 : Int32).toNatClampNeg)]) (st := []) hC (ct_X11_point l1 (xs (l3 + 1 : Int32).toNatClampNeg) (xs (l3 + 2 : Int32).toNatClampNeg) M _ h) ty_X11_point tw973 ht280 rfl (Nat.le_of_ble_eq_true rfl) ⟨rfl, rfl, ⟨by decide, by decide⟩, by show _ ≤ 600000; omega, by show _ ≤ 7302250; omega⟩ dL_law_1268 (fun r281 M282 h => ?_)
  show mj_X g 1271 [(0, vR ((b + 1))), (1, vR l1), (2, vR l2), (3, vI l3)] [vI r281] M282 k n
  refine mx_aload_n (j := 2) hC dL_law_1271 rfl rfl ?_
  refine mx_aload_n (j := 0) hC dL_law_1272 rfl rfl ?_
  refine mx_iload_n (j := 3) hC dL_law_1273 rfl rfl ?_
  refine mx_iconst (v := 1) hC dL_law_1274 (by decide) ?_
  refine mx_iadd hC dL_law_1275 ?_
  refine mx_sld hC hSC hi278 dL_law_1276 ?_
  refine mx_aload_n (j := 0) hC dL_law_1277 rfl rfl ?_
  refine mx_iload_n (j := 3) hC dL_law_1278 rfl rfl ?_
  refine mx_iconst (v := 2) hC dL_law_1279 (by decide) ?_
  refine mx_iadd hC dL_law_1280 ?_
  refine mx_sld hC hSC hi279 dL_law_1281 ?_
  obtain ⟨ht283, h⟩ := h
  refine mx_callV (inj := mj_jI) (As := [vI (xs (l3 + 1 : Int32).toNatClampNeg), vI (xs (l3 + 2 : Int32).toNatClampNeg)]) (st := [vI r281]) hC (ct_X12_point l2 (xs (l3 + 1 : Int32).toNatClampNeg) (xs (l3 + 2 : Int32).toNatClampNeg) M282 _ h) ty_X12_point tw1682 ht283 rfl (Nat.le_of_ble_eq_true rfl) ⟨rfl, rfl, ⟨by decide, by decide⟩, by show _ ≤ 600000; omega, by show _ ≤ 7302250; omega⟩ dL_law_1282 (fun r284 M285 h => ?_)
  show mj_X g 1285 [(0, vR ((b + 1))), (1, vR l1), (2, vR l2), (3, vI l3)] [vI r284, vI r281] M285 k n
  refine mx_icmpeq (tgt := 1834) hC dL_law_1285 (by decide) (fun hc286 => ?_) (fun hc286 => ?_)
  · replace h := mj_yy hc286 h
    refine mx_sub (L' := [(0, vR (b + 1)), (1, vR l1), (2, vR l2), (3, vI l3)]) [0, 1, 2, 3] rfl ?_
    exact show mj_X g 1834 [(0, vR (b + 1)), (1, vR l1), (2, vR l2), (3, vI l3)] [] M285 k n from (xb_L_law_1834 (f := f) hC hE hSC hk18 l1 l2 l3 M285 _ _ (by omega) (by omega) h)
  · replace h := mj_nn hc286 h
    refine mx_iconst (v := 0) hC dL_law_1288 (by decide) ?_
    exact h.elim
set_option maxHeartbeats 4000000 in
set_option maxRecDepth 100000 in
theorem xb_L_law_1290 {b Ln : Nat} {xs : Nat → Int32} {g : mj_G} {nm : String} (hC : mj_C g ⟨R_law, nm, ""⟩ code 4 ret room_1) (hE : mj_EL g) (hSC : mj_SC g b Ln xs) {k18 : Nat → Nat → Int32 → mj_M → Prop} {f : Nat} (hk18 : ∀ (l1 : Nat) (l2 : Nat) (l3 : Int32) (M : mj_M) (k n : Nat), k + 2 * f ≤ 600000 → n + 52 * f ≤ 7302250 → k18 l1 l2 l3 M → mj_X g 18 [(0, vR (b + 1)), (1, vR l1), (2, vR l2), (3, vI l3)] [] M k n) (l1 : Nat) (l2 : Nat) (l3 : Int32) (M : mj_M) (k n : Nat) (hk : k + 2 * (f + 1) ≤ 600000) (hn : n + 52 * (f + 1) ≤ 7302250) (h : vb_L_law_1290 k18 xs Ln l1 l2 l3 M) : mj_X g 1290 [(0, vR (b + 1)), (1, vR l1), (2, vR l2), (3, vI l3)] [] M k n := by
  simp only [vb_L_law_1290] at h
  refine mx_aload_n (j := 1) hC dL_law_1290 rfl rfl ?_
  obtain ⟨ht287, h⟩ := h
  refine mx_callV (inj := mj_jI) (As := []) (st := []) hC (ct_X11_blank l1 M _ h) ty_X11_blank tw988 ht287 rfl (Nat.le_of_ble_eq_true rfl) ⟨rfl, rfl, ⟨by decide, by decide⟩, by show _ ≤ 600000; omega, by show _ ≤ 7302250; omega⟩ dL_law_1291 (fun r288 M289 h => ?_)
  show mj_X g 1294 [(0, vR ((b + 1))), (1, vR l1), (2, vR l2), (3, vI l3)] [vI r288] M289 k n
  refine mx_aload_n (j := 2) hC dL_law_1294 rfl rfl ?_
  obtain ⟨ht290, h⟩ := h
  refine mx_callV (inj := mj_jI) (As := []) (st := [vI r288]) hC (ct_X12_blank l2 M289 _ h) ty_X12_blank tw1688 ht290 rfl (Nat.le_of_ble_eq_true rfl) ⟨rfl, rfl, ⟨by decide, by decide⟩, by show _ ≤ 600000; omega, by show _ ≤ 7302250; omega⟩ dL_law_1295 (fun r291 M292 h => ?_)
  show mj_X g 1298 [(0, vR ((b + 1))), (1, vR l1), (2, vR l2), (3, vI l3)] [vI r291, vI r288] M292 k n
  refine mx_icmpeq (tgt := 1834) hC dL_law_1298 (by decide) (fun hc293 => ?_) (fun hc293 => ?_)
  · replace h := mj_yy hc293 h
    refine mx_sub (L' := [(0, vR (b + 1)), (1, vR l1), (2, vR l2), (3, vI l3)]) [0, 1, 2, 3] rfl ?_
    exact show mj_X g 1834 [(0, vR (b + 1)), (1, vR l1), (2, vR l2), (3, vI l3)] [] M292 k n from (xb_L_law_1834 (f := f) hC hE hSC hk18 l1 l2 l3 M292 _ _ (by omega) (by omega) h)
  · replace h := mj_nn hc293 h
    refine mx_iconst (v := 0) hC dL_law_1301 (by decide) ?_
    exact h.elim
set_option maxHeartbeats 4000000 in
set_option maxRecDepth 100000 in
theorem xb_L_law_1303 {b Ln : Nat} {xs : Nat → Int32} {g : mj_G} {nm : String} (hC : mj_C g ⟨R_law, nm, ""⟩ code 4 ret room_1) (hE : mj_EL g) (hSC : mj_SC g b Ln xs) {k18 : Nat → Nat → Int32 → mj_M → Prop} {f : Nat} (hk18 : ∀ (l1 : Nat) (l2 : Nat) (l3 : Int32) (M : mj_M) (k n : Nat), k + 2 * f ≤ 600000 → n + 52 * f ≤ 7302250 → k18 l1 l2 l3 M → mj_X g 18 [(0, vR (b + 1)), (1, vR l1), (2, vR l2), (3, vI l3)] [] M k n) (l1 : Nat) (l2 : Nat) (l3 : Int32) (M : mj_M) (k n : Nat) (hk : k + 2 * (f + 1) ≤ 600000) (hn : n + 52 * (f + 1) ≤ 7302250) (h : vb_L_law_1303 k18 xs Ln l1 l2 l3 M) : mj_X g 1303 [(0, vR (b + 1)), (1, vR l1), (2, vR l2), (3, vI l3)] [] M k n := by
  simp only [vb_L_law_1303] at h
  refine mx_aload_n (j := 1) hC dL_law_1303 rfl rfl ?_
  refine mx_aload_n (j := 0) hC dL_law_1304 rfl rfl ?_
  refine mx_iload_n (j := 3) hC dL_law_1305 rfl rfl ?_
  refine mx_iconst (v := 1) hC dL_law_1306 (by decide) ?_
  refine mx_iadd hC dL_law_1307 ?_
  obtain ⟨hi294, h⟩ := h
  refine mx_sld hC hSC hi294 dL_law_1308 ?_
  obtain ⟨ht295, h⟩ := h
  refine mx_callV (inj := mj_jI) (As := [vI (xs (l3 + 1 : Int32).toNatClampNeg)]) (st := []) hC (ct_X11_table l1 (xs (l3 + 1 : Int32).toNatClampNeg) M _ h) ty_X11_table tw992 ht295 rfl (Nat.le_of_ble_eq_true rfl) ⟨rfl, rfl, ⟨by decide, by decide⟩, by show _ ≤ 600000; omega, by show _ ≤ 7302250; omega⟩ dL_law_1309 (fun r296 M297 h => ?_)
  show mj_X g 1312 [(0, vR ((b + 1))), (1, vR l1), (2, vR l2), (3, vI l3)] [vI r296] M297 k n
  refine mx_aload_n (j := 2) hC dL_law_1312 rfl rfl ?_
  refine mx_aload_n (j := 0) hC dL_law_1313 rfl rfl ?_
  refine mx_iload_n (j := 3) hC dL_law_1314 rfl rfl ?_
  refine mx_iconst (v := 1) hC dL_law_1315 (by decide) ?_
  refine mx_iadd hC dL_law_1316 ?_
  refine mx_sld hC hSC hi294 dL_law_1317 ?_
  obtain ⟨ht298, h⟩ := h
  refine mx_callV (inj := mj_jI) (As := [vI (xs (l3 + 1 : Int32).toNatClampNeg)]) (st := [vI r296]) hC (ct_X12_table l2 (xs (l3 + 1 : Int32).toNatClampNeg) M297 _ h) ty_X12_table tw1692 ht298 rfl (Nat.le_of_ble_eq_true rfl) ⟨rfl, rfl, ⟨by decide, by decide⟩, by show _ ≤ 600000; omega, by show _ ≤ 7302250; omega⟩ dL_law_1318 (fun r299 M300 h => ?_)
  show mj_X g 1321 [(0, vR ((b + 1))), (1, vR l1), (2, vR l2), (3, vI l3)] [vI r299, vI r296] M300 k n
  refine mx_icmpeq (tgt := 1834) hC dL_law_1321 (by decide) (fun hc301 => ?_) (fun hc301 => ?_)
  · replace h := mj_yy hc301 h
    refine mx_sub (L' := [(0, vR (b + 1)), (1, vR l1), (2, vR l2), (3, vI l3)]) [0, 1, 2, 3] rfl ?_
    exact show mj_X g 1834 [(0, vR (b + 1)), (1, vR l1), (2, vR l2), (3, vI l3)] [] M300 k n from (xb_L_law_1834 (f := f) hC hE hSC hk18 l1 l2 l3 M300 _ _ (by omega) (by omega) h)
  · replace h := mj_nn hc301 h
    refine mx_iconst (v := 0) hC dL_law_1324 (by decide) ?_
    exact h.elim
set_option maxHeartbeats 4000000 in
set_option maxRecDepth 100000 in
theorem xb_L_law_1326 {b Ln : Nat} {xs : Nat → Int32} {g : mj_G} {nm : String} (hC : mj_C g ⟨R_law, nm, ""⟩ code 4 ret room_1) (hE : mj_EL g) (hSC : mj_SC g b Ln xs) {k18 : Nat → Nat → Int32 → mj_M → Prop} {f : Nat} (hk18 : ∀ (l1 : Nat) (l2 : Nat) (l3 : Int32) (M : mj_M) (k n : Nat), k + 2 * f ≤ 600000 → n + 52 * f ≤ 7302250 → k18 l1 l2 l3 M → mj_X g 18 [(0, vR (b + 1)), (1, vR l1), (2, vR l2), (3, vI l3)] [] M k n) (l1 : Nat) (l2 : Nat) (l3 : Int32) (M : mj_M) (k n : Nat) (hk : k + 2 * (f + 1) ≤ 600000) (hn : n + 52 * (f + 1) ≤ 7302250) (h : vb_L_law_1326 k18 xs Ln l1 l2 l3 M) : mj_X g 1326 [(0, vR (b + 1)), (1, vR l1), (2, vR l2), (3, vI l3)] [] M k n := by
  simp only [vb_L_law_1326] at h
  refine mx_aload_n (j := 1) hC dL_law_1326 rfl rfl ?_
  refine mx_aload_n (j := 0) hC dL_law_1327 rfl rfl ?_
  refine mx_iload_n (j := 3) hC dL_law_1328 rfl rfl ?_
  refine mx_iconst (v := 1) hC dL_law_1329 (by decide) ?_
  refine mx_iadd hC dL_law_1330 ?_
  obtain ⟨hi302, h⟩ := h
  refine mx_sld hC hSC hi302 dL_law_1331 ?_
  obtain ⟨ht303, h⟩ := h
  refine mx_callV (inj := mj_jI) (As := [vI (xs (l3 + 1 : Int32).toNatClampNeg)]) (st := []) hC (ct_X11_worth l1 (xs (l3 + 1 : Int32).toNatClampNeg) M _ h) ty_X11_worth tw1003 ht303 rfl (Nat.le_of_ble_eq_true rfl) ⟨rfl, rfl, ⟨by decide, by decide⟩, by show _ ≤ 600000; omega, by show _ ≤ 7302250; omega⟩ dL_law_1332 (fun r304 M305 h => ?_)
  show mj_X g 1335 [(0, vR ((b + 1))), (1, vR l1), (2, vR l2), (3, vI l3)] [vI r304] M305 k n
  refine mx_aload_n (j := 2) hC dL_law_1335 rfl rfl ?_
  refine mx_aload_n (j := 0) hC dL_law_1336 rfl rfl ?_
  refine mx_iload_n (j := 3) hC dL_law_1337 rfl rfl ?_
  refine mx_iconst (v := 1) hC dL_law_1338 (by decide) ?_
  refine mx_iadd hC dL_law_1339 ?_
  refine mx_sld hC hSC hi302 dL_law_1340 ?_
  obtain ⟨ht306, h⟩ := h
  refine mx_callV (inj := mj_jI) (As := [vI (xs (l3 + 1 : Int32).toNatClampNeg)]) (st := [vI r304]) hC (ct_X12_worth l2 (xs (l3 + 1 : Int32).toNatClampNeg) M305 _ h) ty_X12_worth tw1700 ht306 rfl (Nat.le_of_ble_eq_true rfl) ⟨rfl, rfl, ⟨by decide, by decide⟩, by show _ ≤ 600000; omega, by show _ ≤ 7302250; omega⟩ dL_law_1341 (fun r307 M308 h => ?_)
  show mj_X g 1344 [(0, vR ((b + 1))), (1, vR l1), (2, vR l2), (3, vI l3)] [vI r307, vI r304] M308 k n
  refine mx_icmpeq (tgt := 1834) hC dL_law_1344 (by decide) (fun hc309 => ?_) (fun hc309 => ?_)
  · replace h := mj_yy hc309 h
    refine mx_sub (L' := [(0, vR (b + 1)), (1, vR l1), (2, vR l2), (3, vI l3)]) [0, 1, 2, 3] rfl ?_
    exact show mj_X g 1834 [(0, vR (b + 1)), (1, vR l1), (2, vR l2), (3, vI l3)] [] M308 k n from (xb_L_law_1834 (f := f) hC hE hSC hk18 l1 l2 l3 M308 _ _ (by omega) (by omega) h)
  · replace h := mj_nn hc309 h
    refine mx_iconst (v := 0) hC dL_law_1347 (by decide) ?_
    exact h.elim
set_option maxHeartbeats 4000000 in
set_option maxRecDepth 100000 in
theorem xb_L_law_1349 {b Ln : Nat} {xs : Nat → Int32} {g : mj_G} {nm : String} (hC : mj_C g ⟨R_law, nm, ""⟩ code 4 ret room_1) (hE : mj_EL g) (hSC : mj_SC g b Ln xs) {k18 : Nat → Nat → Int32 → mj_M → Prop} {f : Nat} (hk18 : ∀ (l1 : Nat) (l2 : Nat) (l3 : Int32) (M : mj_M) (k n : Nat), k + 2 * f ≤ 600000 → n + 52 * f ≤ 7302250 → k18 l1 l2 l3 M → mj_X g 18 [(0, vR (b + 1)), (1, vR l1), (2, vR l2), (3, vI l3)] [] M k n) (l1 : Nat) (l2 : Nat) (l3 : Int32) (M : mj_M) (k n : Nat) (hk : k + 2 * (f + 1) ≤ 600000) (hn : n + 52 * (f + 1) ≤ 7302250) (h : vb_L_law_1349 k18 xs Ln l1 l2 l3 M) : mj_X g 1349 [(0, vR (b + 1)), (1, vR l1), (2, vR l2), (3, vI l3)] [] M k n := by
  simp only [vb_L_law_1349] at h
  refine mx_aload_n (j := 1) hC dL_law_1349 rfl rfl ?_
  refine mx_aload_n (j := 0) hC dL_law_1350 rfl rfl ?_
  refine mx_iload_n (j := 3) hC dL_law_1351 rfl rfl ?_
  refine mx_iconst (v := 1) hC dL_law_1352 (by decide) ?_
  refine mx_iadd hC dL_law_1353 ?_
  obtain ⟨hi310, h⟩ := h
  refine mx_sld hC hSC hi310 dL_law_1354 ?_
  refine mx_aload_n (j := 0) hC dL_law_1355 rfl rfl ?_
  refine mx_iload_n (j := 3) hC dL_law_1356 rfl rfl ?_
  refine mx_iconst (v := 2) hC dL_law_1357 (by decide) ?_
  refine mx_iadd hC dL_law_1358 ?_
  obtain ⟨hi311, h⟩ := h
  refine mx_sld hC hSC hi311 dL_law_1359 ?_
  obtain ⟨ht312, h⟩ := h
  refine mx_callV (inj := mj_jI) (As := [vI (xs (l3 + 1 : Int32).toNatClampNeg), vI (xs (l3 + 2 : Int32).toNatClampNeg)]) (st := []) hC (ct_X11_sale l1 (xs (l3 + 1 : Int32).toNatClampNeg) (xs (l3 + 2 : Int32).toNatClampNeg) M _ h) ty_X11_sale tw1026 ht312 rfl (Nat.le_of_ble_eq_true rfl) ⟨rfl, rfl, ⟨by decide, by decide⟩, by show _ ≤ 600000; omega, by show _ ≤ 7302250; omega⟩ dL_law_1360 (fun r313 M314 h => ?_)
  show mj_X g 1363 [(0, vR ((b + 1))), (1, vR l1), (2, vR l2), (3, vI l3)] [vI r313] M314 k n
  refine mx_aload_n (j := 2) hC dL_law_1363 rfl rfl ?_
  refine mx_aload_n (j := 0) hC dL_law_1364 rfl rfl ?_
  refine mx_iload_n (j := 3) hC dL_law_1365 rfl rfl ?_
  refine mx_iconst (v := 1) hC dL_law_1366 (by decide) ?_
  refine mx_iadd hC dL_law_1367 ?_
  refine mx_sld hC hSC hi310 dL_law_1368 ?_
  refine mx_aload_n (j := 0) hC dL_law_1369 rfl rfl ?_
  refine mx_iload_n (j := 3) hC dL_law_1370 rfl rfl ?_
  refine mx_iconst (v := 2) hC dL_law_1371 (by decide) ?_
  refine mx_iadd hC dL_law_1372 ?_
  refine mx_sld hC hSC hi311 dL_law_1373 ?_
  obtain ⟨ht315, h⟩ := h
  refine mx_callV (inj := mj_jI) (As := [vI (xs (l3 + 1 : Int32).toNatClampNeg), vI (xs (l3 + 2 : Int32).toNatClampNeg)]) (st := [vI r313]) hC (ct_X12_sale l2 (xs (l3 + 1 : Int32).toNatClampNeg) (xs (l3 + 2 : Int32).toNatClampNeg) M314 _ h) ty_X12_sale tw1716 ht315 rfl (Nat.le_of_ble_eq_true rfl) ⟨rfl, rfl, ⟨by decide, by decide⟩, by show _ ≤ 600000; omega, by show _ ≤ 7302250; omega⟩ dL_law_1374 (fun r316 M317 h => ?_)
  show mj_X g 1377 [(0, vR ((b + 1))), (1, vR l1), (2, vR l2), (3, vI l3)] [vI r316, vI r313] M317 k n
  refine mx_icmpeq (tgt := 1834) hC dL_law_1377 (by decide) (fun hc318 => ?_) (fun hc318 => ?_)
  · replace h := mj_yy hc318 h
    refine mx_sub (L' := [(0, vR (b + 1)), (1, vR l1), (2, vR l2), (3, vI l3)]) [0, 1, 2, 3] rfl ?_
    exact show mj_X g 1834 [(0, vR (b + 1)), (1, vR l1), (2, vR l2), (3, vI l3)] [] M317 k n from (xb_L_law_1834 (f := f) hC hE hSC hk18 l1 l2 l3 M317 _ _ (by omega) (by omega) h)
  · replace h := mj_nn hc318 h
    refine mx_iconst (v := 0) hC dL_law_1380 (by decide) ?_
    exact h.elim
set_option maxHeartbeats 4000000 in
set_option maxRecDepth 100000 in
theorem xb_L_law_1382 {b Ln : Nat} {xs : Nat → Int32} {g : mj_G} {nm : String} (hC : mj_C g ⟨R_law, nm, ""⟩ code 4 ret room_1) (hE : mj_EL g) (hSC : mj_SC g b Ln xs) {k18 : Nat → Nat → Int32 → mj_M → Prop} {f : Nat} (hk18 : ∀ (l1 : Nat) (l2 : Nat) (l3 : Int32) (M : mj_M) (k n : Nat), k + 2 * f ≤ 600000 → n + 52 * f ≤ 7302250 → k18 l1 l2 l3 M → mj_X g 18 [(0, vR (b + 1)), (1, vR l1), (2, vR l2), (3, vI l3)] [] M k n) (l1 : Nat) (l2 : Nat) (l3 : Int32) (M : mj_M) (k n : Nat) (hk : k + 2 * (f + 1) ≤ 600000) (hn : n + 52 * (f + 1) ≤ 7302250) (h : vb_L_law_1382 k18 xs Ln l1 l2 l3 M) : mj_X g 1382 [(0, vR (b + 1)), (1, vR l1), (2, vR l2), (3, vI l3)] [] M k n := by
  simp only [vb_L_law_1382] at h
  refine mx_aload_n (j := 1) hC dL_law_1382 rfl rfl ?_
  refine mx_aload_n (j := 0) hC dL_law_1383 rfl rfl ?_
  refine mx_iload_n (j := 3) hC dL_law_1384 rfl rfl ?_
  refine mx_iconst (v := 1) hC dL_law_1385 (by decide) ?_
  refine mx_iadd hC dL_law_1386 ?_
  obtain ⟨hi319, h⟩ := h
  refine mx_sld hC hSC hi319 dL_law_1387 ?_
  refine mx_aload_n (j := 0) hC dL_law_1388 rfl rfl ?_
  refine mx_iload_n (j := 3) hC dL_law_1389 rfl rfl ?_
  refine mx_iconst (v := 2) hC dL_law_1390 (by decide) ?_
  refine mx_iadd hC dL_law_1391 ?_
  obtain ⟨hi320, h⟩ := h
  refine mx_sld hC hSC hi320 dL_law_1392 ?_
  refine mx_aload_n (j := 0) hC dL_law_1393 rfl rfl ?_
  refine mx_iload_n (j := 3) hC dL_law_1394 rfl rfl ?_
  refine mx_iconst (v := 3) hC dL_law_1395 (by decide) ?_
  refine mx_iadd hC dL_law_1396 ?_
  obtain ⟨hi321, h⟩ := h
  refine mx_sld hC hSC hi321 dL_law_1397 ?_
  obtain ⟨ht322, h⟩ := h
  refine mx_callV (inj := mj_jL) (As := [vI (xs (l3 + 1 : Int32).toNatClampNeg), vI (xs (l3 + 2 : Int32).toNatClampNeg), vI (xs (l3 + 3 : Int32).toNatClampNeg)]) (st := []) hC (ct_X11_learned l1 (xs (l3 + 1 : Int32).toNatClampNeg) (xs (l3 + 2 : Int32).toNatClampNeg) (xs (l3 + 3 : Int32).toNatClampNeg) M _ h) ty_X11_learned tw1034 ht322 rfl (Nat.le_of_ble_eq_true rfl) ⟨rfl, rfl, ⟨by decide, by decide⟩, by show _ ≤ 600000; omega, by show _ ≤ 7302250; omega⟩ dL_law_1398 (fun r323 M324 h => ?_)
  show mj_X g 1401 [(0, vR ((b + 1))), (1, vR l1), (2, vR l2), (3, vI l3)] [vL r323] M324 k n
  refine mx_aload_n (j := 2) hC dL_law_1401 rfl rfl ?_
  refine mx_aload_n (j := 0) hC dL_law_1402 rfl rfl ?_
  refine mx_iload_n (j := 3) hC dL_law_1403 rfl rfl ?_
  refine mx_iconst (v := 1) hC dL_law_1404 (by decide) ?_
  refine mx_iadd hC dL_law_1405 ?_
  refine mx_sld hC hSC hi319 dL_law_1406 ?_
  refine mx_aload_n (j := 0) hC dL_law_1407 rfl rfl ?_
  refine mx_iload_n (j := 3) hC dL_law_1408 rfl rfl ?_
  refine mx_iconst (v := 2) hC dL_law_1409 (by decide) ?_
  refine mx_iadd hC dL_law_1410 ?_
  refine mx_sld hC hSC hi320 dL_law_1411 ?_
  refine mx_aload_n (j := 0) hC dL_law_1412 rfl rfl ?_
  refine mx_iload_n (j := 3) hC dL_law_1413 rfl rfl ?_
  refine mx_iconst (v := 3) hC dL_law_1414 (by decide) ?_
  refine mx_iadd hC dL_law_1415 ?_
  refine mx_sld hC hSC hi321 dL_law_1416 ?_
  obtain ⟨ht325, h⟩ := h
  refine mx_callV (inj := mj_jL) (As := [vI (xs (l3 + 1 : Int32).toNatClampNeg), vI (xs (l3 + 2 : Int32).toNatClampNeg), vI (xs (l3 + 3 : Int32).toNatClampNeg)]) (st := [vL r323]) hC (ct_X12_learned l2 (xs (l3 + 1 : Int32).toNatClampNeg) (xs (l3 + 2 : Int32).toNatClampNeg) (xs (l3 + 3 : Int32).toNatClampNeg) M324 _ h) ty_X12_learned tw1720 ht325 rfl (Nat.le_of_ble_eq_true rfl) ⟨rfl, rfl, ⟨by decide, by decide⟩, by show _ ≤ 600000; omega, by show _ ≤ 7302250; omega⟩ dL_law_1417 (fun r326 M327 h => ?_)
  show mj_X g 1420 [(0, vR ((b + 1))), (1, vR l1), (2, vR l2), (3, vI l3)] [vL r326, vL r323] M327 k n
  refine mx_lcmp hC dL_law_1420 ?_
  refine mx_ifeq (tgt := 1834) hC dL_law_1421 (by decide) (fun hc328 => ?_) (fun hc328 => ?_)
  · replace h := mj_yy hc328 h
    refine mx_sub (L' := [(0, vR (b + 1)), (1, vR l1), (2, vR l2), (3, vI l3)]) [0, 1, 2, 3] rfl ?_
    exact show mj_X g 1834 [(0, vR (b + 1)), (1, vR l1), (2, vR l2), (3, vI l3)] [] M327 k n from (xb_L_law_1834 (f := f) hC hE hSC hk18 l1 l2 l3 M327 _ _ (by omega) (by omega) h)
  · replace h := mj_nn hc328 h
    refine mx_iconst (v := 0) hC dL_law_1424 (by decide) ?_
    exact h.elim
set_option maxHeartbeats 4000000 in
set_option maxRecDepth 100000 in
theorem xb_L_law_1426 {b Ln : Nat} {xs : Nat → Int32} {g : mj_G} {nm : String} (hC : mj_C g ⟨R_law, nm, ""⟩ code 4 ret room_1) (hE : mj_EL g) (hSC : mj_SC g b Ln xs) {k18 : Nat → Nat → Int32 → mj_M → Prop} {f : Nat} (hk18 : ∀ (l1 : Nat) (l2 : Nat) (l3 : Int32) (M : mj_M) (k n : Nat), k + 2 * f ≤ 600000 → n + 52 * f ≤ 7302250 → k18 l1 l2 l3 M → mj_X g 18 [(0, vR (b + 1)), (1, vR l1), (2, vR l2), (3, vI l3)] [] M k n) (l1 : Nat) (l2 : Nat) (l3 : Int32) (M : mj_M) (k n : Nat) (hk : k + 2 * (f + 1) ≤ 600000) (hn : n + 52 * (f + 1) ≤ 7302250) (h : vb_L_law_1426 k18 xs Ln l1 l2 l3 M) : mj_X g 1426 [(0, vR (b + 1)), (1, vR l1), (2, vR l2), (3, vI l3)] [] M k n := by
  simp only [vb_L_law_1426] at h
  refine mx_aload_n (j := 1) hC dL_law_1426 rfl rfl ?_
  refine mx_aload_n (j := 0) hC dL_law_1427 rfl rfl ?_
  refine mx_iload_n (j := 3) hC dL_law_1428 rfl rfl ?_
  refine mx_iconst (v := 1) hC dL_law_1429 (by decide) ?_
  refine mx_iadd hC dL_law_1430 ?_
  obtain ⟨hi329, h⟩ := h
  refine mx_sld hC hSC hi329 dL_law_1431 ?_
  obtain ⟨ht330, h⟩ := h
  refine mx_callV (inj := mj_jL) (As := [vI (xs (l3 + 1 : Int32).toNatClampNeg)]) (st := []) hC (ct_X11_doubt l1 (xs (l3 + 1 : Int32).toNatClampNeg) M _ h) ty_X11_doubt tw1061 ht330 rfl (Nat.le_of_ble_eq_true rfl) ⟨rfl, rfl, ⟨by decide, by decide⟩, by show _ ≤ 600000; omega, by show _ ≤ 7302250; omega⟩ dL_law_1432 (fun r331 M332 h => ?_)
  show mj_X g 1435 [(0, vR ((b + 1))), (1, vR l1), (2, vR l2), (3, vI l3)] [vL r331] M332 k n
  refine mx_aload_n (j := 2) hC dL_law_1435 rfl rfl ?_
  refine mx_aload_n (j := 0) hC dL_law_1436 rfl rfl ?_
  refine mx_iload_n (j := 3) hC dL_law_1437 rfl rfl ?_
  refine mx_iconst (v := 1) hC dL_law_1438 (by decide) ?_
  refine mx_iadd hC dL_law_1439 ?_
  refine mx_sld hC hSC hi329 dL_law_1440 ?_
  obtain ⟨ht333, h⟩ := h
  refine mx_callV (inj := mj_jL) (As := [vI (xs (l3 + 1 : Int32).toNatClampNeg)]) (st := [vL r331]) hC (ct_X12_doubt l2 (xs (l3 + 1 : Int32).toNatClampNeg) M332 _ h) ty_X12_doubt tw1735 ht333 rfl (Nat.le_of_ble_eq_true rfl) ⟨rfl, rfl, ⟨by decide, by decide⟩, by show _ ≤ 600000; omega, by show _ ≤ 7302250; omega⟩ dL_law_1441 (fun r334 M335 h => ?_)
  show mj_X g 1444 [(0, vR ((b + 1))), (1, vR l1), (2, vR l2), (3, vI l3)] [vL r334, vL r331] M335 k n
  refine mx_lcmp hC dL_law_1444 ?_
  refine mx_ifeq (tgt := 1834) hC dL_law_1445 (by decide) (fun hc336 => ?_) (fun hc336 => ?_)
  · replace h := mj_yy hc336 h
    refine mx_sub (L' := [(0, vR (b + 1)), (1, vR l1), (2, vR l2), (3, vI l3)]) [0, 1, 2, 3] rfl ?_
    exact show mj_X g 1834 [(0, vR (b + 1)), (1, vR l1), (2, vR l2), (3, vI l3)] [] M335 k n from (xb_L_law_1834 (f := f) hC hE hSC hk18 l1 l2 l3 M335 _ _ (by omega) (by omega) h)
  · replace h := mj_nn hc336 h
    refine mx_iconst (v := 0) hC dL_law_1448 (by decide) ?_
    exact h.elim
set_option maxHeartbeats 4000000 in
set_option maxRecDepth 100000 in
theorem xb_L_law_1450 {b Ln : Nat} {xs : Nat → Int32} {g : mj_G} {nm : String} (hC : mj_C g ⟨R_law, nm, ""⟩ code 4 ret room_1) (hE : mj_EL g) (hSC : mj_SC g b Ln xs) {k18 : Nat → Nat → Int32 → mj_M → Prop} {f : Nat} (hk18 : ∀ (l1 : Nat) (l2 : Nat) (l3 : Int32) (M : mj_M) (k n : Nat), k + 2 * f ≤ 600000 → n + 52 * f ≤ 7302250 → k18 l1 l2 l3 M → mj_X g 18 [(0, vR (b + 1)), (1, vR l1), (2, vR l2), (3, vI l3)] [] M k n) (l1 : Nat) (l2 : Nat) (l3 : Int32) (M : mj_M) (k n : Nat) (hk : k + 2 * (f + 1) ≤ 600000) (hn : n + 52 * (f + 1) ≤ 7302250) (h : vb_L_law_1450 k18 xs Ln l1 l2 l3 M) : mj_X g 1450 [(0, vR (b + 1)), (1, vR l1), (2, vR l2), (3, vI l3)] [] M k n := by
  simp only [vb_L_law_1450] at h
  refine mx_aload_n (j := 1) hC dL_law_1450 rfl rfl ?_
  refine mx_aload_n (j := 0) hC dL_law_1451 rfl rfl ?_
  refine mx_iload_n (j := 3) hC dL_law_1452 rfl rfl ?_
  refine mx_iconst (v := 1) hC dL_law_1453 (by decide) ?_
  refine mx_iadd hC dL_law_1454 ?_
  obtain ⟨hi337, h⟩ := h
  refine mx_sld hC hSC hi337 dL_law_1455 ?_
  refine mx_aload_n (j := 0) hC dL_law_1456 rfl rfl ?_
  refine mx_iload_n (j := 3) hC dL_law_1457 rfl rfl ?_
  refine mx_iconst (v := 2) hC dL_law_1458 (by decide) ?_
  refine mx_iadd hC dL_law_1459 ?_
  obtain ⟨hi338, h⟩ := h
  refine mx_sld hC hSC hi338 dL_law_1460 ?_
  obtain ⟨ht339, h⟩ := h
  refine mx_callV (inj := mj_jI) (As := [vI (xs (l3 + 1 : Int32).toNatClampNeg), vI (xs (l3 + 2 : Int32).toNatClampNeg)]) (st := []) hC (ct_X11_set l1 (xs (l3 + 1 : Int32).toNatClampNeg) (xs (l3 + 2 : Int32).toNatClampNeg) M _ h) ty_X11_set tw1073 ht339 rfl (Nat.le_of_ble_eq_true rfl) ⟨rfl, rfl, ⟨by decide, by decide⟩, by show _ ≤ 600000; omega, by show _ ≤ 7302250; omega⟩ dL_law_1461 (fun r340 M341 h => ?_)
  show mj_X g 1464 [(0, vR ((b + 1))), (1, vR l1), (2, vR l2), (3, vI l3)] [vI r340] M341 k n
  refine mx_aload_n (j := 2) hC dL_law_1464 rfl rfl ?_
  refine mx_aload_n (j := 0) hC dL_law_1465 rfl rfl ?_
  refine mx_iload_n (j := 3) hC dL_law_1466 rfl rfl ?_
  refine mx_iconst (v := 1) hC dL_law_1467 (by decide) ?_
  refine mx_iadd hC dL_law_1468 ?_
  refine mx_sld hC hSC hi337 dL_law_1469 ?_
  refine mx_aload_n (j := 0) hC dL_law_1470 rfl rfl ?_
  refine mx_iload_n (j := 3) hC dL_law_1471 rfl rfl ?_
  refine mx_iconst (v := 2) hC dL_law_1472 (by decide) ?_
  refine mx_iadd hC dL_law_1473 ?_
  refine mx_sld hC hSC hi338 dL_law_1474 ?_
  obtain ⟨ht342, h⟩ := h
  refine mx_callV (inj := mj_jI) (As := [vI (xs (l3 + 1 : Int32).toNatClampNeg), vI (xs (l3 + 2 : Int32).toNatClampNeg)]) (st := [vI r340]) hC (ct_X12_set l2 (xs (l3 + 1 : Int32).toNatClampNeg) (xs (l3 + 2 : Int32).toNatClampNeg) M341 _ h) ty_X12_set tw1739 ht342 rfl (Nat.le_of_ble_eq_true rfl) ⟨rfl, rfl, ⟨by decide, by decide⟩, by show _ ≤ 600000; omega, by show _ ≤ 7302250; omega⟩ dL_law_1475 (fun r343 M344 h => ?_)
  show mj_X g 1478 [(0, vR ((b + 1))), (1, vR l1), (2, vR l2), (3, vI l3)] [vI r343, vI r340] M344 k n
  refine mx_icmpeq (tgt := 1834) hC dL_law_1478 (by decide) (fun hc345 => ?_) (fun hc345 => ?_)
  · replace h := mj_yy hc345 h
    refine mx_sub (L' := [(0, vR (b + 1)), (1, vR l1), (2, vR l2), (3, vI l3)]) [0, 1, 2, 3] rfl ?_
    exact show mj_X g 1834 [(0, vR (b + 1)), (1, vR l1), (2, vR l2), (3, vI l3)] [] M344 k n from (xb_L_law_1834 (f := f) hC hE hSC hk18 l1 l2 l3 M344 _ _ (by omega) (by omega) h)
  · replace h := mj_nn hc345 h
    refine mx_iconst (v := 0) hC dL_law_1481 (by decide) ?_
    exact h.elim
set_option maxHeartbeats 4000000 in
set_option maxRecDepth 100000 in
theorem xb_L_law_1483 {b Ln : Nat} {xs : Nat → Int32} {g : mj_G} {nm : String} (hC : mj_C g ⟨R_law, nm, ""⟩ code 4 ret room_1) (hE : mj_EL g) (hSC : mj_SC g b Ln xs) {k18 : Nat → Nat → Int32 → mj_M → Prop} {f : Nat} (hk18 : ∀ (l1 : Nat) (l2 : Nat) (l3 : Int32) (M : mj_M) (k n : Nat), k + 2 * f ≤ 600000 → n + 52 * f ≤ 7302250 → k18 l1 l2 l3 M → mj_X g 18 [(0, vR (b + 1)), (1, vR l1), (2, vR l2), (3, vI l3)] [] M k n) (l1 : Nat) (l2 : Nat) (l3 : Int32) (M : mj_M) (k n : Nat) (hk : k + 2 * (f + 1) ≤ 600000) (hn : n + 52 * (f + 1) ≤ 7302250) (h : vb_L_law_1483 k18 xs Ln l1 l2 l3 M) : mj_X g 1483 [(0, vR (b + 1)), (1, vR l1), (2, vR l2), (3, vI l3)] [] M k n := by
  simp only [vb_L_law_1483] at h
  refine mx_aload_n (j := 1) hC dL_law_1483 rfl rfl ?_
  refine mx_aload_n (j := 0) hC dL_law_1484 rfl rfl ?_
  refine mx_iload_n (j := 3) hC dL_law_1485 rfl rfl ?_
  refine mx_iconst (v := 1) hC dL_law_1486 (by decide) ?_
  refine mx_iadd hC dL_law_1487 ?_
  obtain ⟨hi346, h⟩ := h
  refine mx_sld hC hSC hi346 dL_law_1488 ?_
  refine mx_aload_n (j := 0) hC dL_law_1489 rfl rfl ?_
  refine mx_iload_n (j := 3) hC dL_law_1490 rfl rfl ?_
  refine mx_iconst (v := 2) hC dL_law_1491 (by decide) ?_
  refine mx_iadd hC dL_law_1492 ?_
  obtain ⟨hi347, h⟩ := h
  refine mx_sld hC hSC hi347 dL_law_1493 ?_
  obtain ⟨ht348, h⟩ := h
  refine mx_callV (inj := mj_jL) (As := [vI (xs (l3 + 1 : Int32).toNatClampNeg), vI (xs (l3 + 2 : Int32).toNatClampNeg)]) (st := []) hC (ct_X11_price l1 (xs (l3 + 1 : Int32).toNatClampNeg) (xs (l3 + 2 : Int32).toNatClampNeg) M _ h) ty_X11_price tw1077 ht348 rfl (Nat.le_of_ble_eq_true rfl) ⟨rfl, rfl, ⟨by decide, by decide⟩, by show _ ≤ 600000; omega, by show _ ≤ 7302250; omega⟩ dL_law_1494 (fun r349 M350 h => ?_)
  show mj_X g 1497 [(0, vR ((b + 1))), (1, vR l1), (2, vR l2), (3, vI l3)] [vL r349] M350 k n
  refine mx_aload_n (j := 2) hC dL_law_1497 rfl rfl ?_
  refine mx_aload_n (j := 0) hC dL_law_1498 rfl rfl ?_
  refine mx_iload_n (j := 3) hC dL_law_1499 rfl rfl ?_
  refine mx_iconst (v := 1) hC dL_law_1500 (by decide) ?_
  refine mx_iadd hC dL_law_1501 ?_
  refine mx_sld hC hSC hi346 dL_law_1502 ?_
  refine mx_aload_n (j := 0) hC dL_law_1503 rfl rfl ?_
  refine mx_iload_n (j := 3) hC dL_law_1504 rfl rfl ?_
  refine mx_iconst (v := 2) hC dL_law_1505 (by decide) ?_
  refine mx_iadd hC dL_law_1506 ?_
  refine mx_sld hC hSC hi347 dL_law_1507 ?_
  obtain ⟨ht351, h⟩ := h
  refine mx_callV (inj := mj_jL) (As := [vI (xs (l3 + 1 : Int32).toNatClampNeg), vI (xs (l3 + 2 : Int32).toNatClampNeg)]) (st := [vL r349]) hC (ct_X12_price l2 (xs (l3 + 1 : Int32).toNatClampNeg) (xs (l3 + 2 : Int32).toNatClampNeg) M350 _ h) ty_X12_price tw1744 ht351 rfl (Nat.le_of_ble_eq_true rfl) ⟨rfl, rfl, ⟨by decide, by decide⟩, by show _ ≤ 600000; omega, by show _ ≤ 7302250; omega⟩ dL_law_1508 (fun r352 M353 h => ?_)
  show mj_X g 1511 [(0, vR ((b + 1))), (1, vR l1), (2, vR l2), (3, vI l3)] [vL r352, vL r349] M353 k n
  refine mx_lcmp hC dL_law_1511 ?_
  refine mx_ifeq (tgt := 1834) hC dL_law_1512 (by decide) (fun hc354 => ?_) (fun hc354 => ?_)
  · replace h := mj_yy hc354 h
    refine mx_sub (L' := [(0, vR (b + 1)), (1, vR l1), (2, vR l2), (3, vI l3)]) [0, 1, 2, 3] rfl ?_
    exact show mj_X g 1834 [(0, vR (b + 1)), (1, vR l1), (2, vR l2), (3, vI l3)] [] M353 k n from (xb_L_law_1834 (f := f) hC hE hSC hk18 l1 l2 l3 M353 _ _ (by omega) (by omega) h)
  · replace h := mj_nn hc354 h
    refine mx_iconst (v := 0) hC dL_law_1515 (by decide) ?_
    exact h.elim
set_option maxHeartbeats 4000000 in
set_option maxRecDepth 100000 in
theorem xb_L_law_1517 {b Ln : Nat} {xs : Nat → Int32} {g : mj_G} {nm : String} (hC : mj_C g ⟨R_law, nm, ""⟩ code 4 ret room_1) (hE : mj_EL g) (hSC : mj_SC g b Ln xs) {k18 : Nat → Nat → Int32 → mj_M → Prop} {f : Nat} (hk18 : ∀ (l1 : Nat) (l2 : Nat) (l3 : Int32) (M : mj_M) (k n : Nat), k + 2 * f ≤ 600000 → n + 52 * f ≤ 7302250 → k18 l1 l2 l3 M → mj_X g 18 [(0, vR (b + 1)), (1, vR l1), (2, vR l2), (3, vI l3)] [] M k n) (l1 : Nat) (l2 : Nat) (l3 : Int32) (M : mj_M) (k n : Nat) (hk : k + 2 * (f + 1) ≤ 600000) (hn : n + 52 * (f + 1) ≤ 7302250) (h : vb_L_law_1517 k18 xs Ln l1 l2 l3 M) : mj_X g 1517 [(0, vR (b + 1)), (1, vR l1), (2, vR l2), (3, vI l3)] [] M k n := by
  simp only [vb_L_law_1517] at h
  refine mx_aload_n (j := 1) hC dL_law_1517 rfl rfl ?_
  refine mx_aload_n (j := 0) hC dL_law_1518 rfl rfl ?_
  refine mx_iload_n (j := 3) hC dL_law_1519 rfl rfl ?_
  refine mx_iconst (v := 1) hC dL_law_1520 (by decide) ?_
  refine mx_iadd hC dL_law_1521 ?_
  obtain ⟨hi355, h⟩ := h
  refine mx_sld hC hSC hi355 dL_law_1522 ?_
  refine mx_aload_n (j := 0) hC dL_law_1523 rfl rfl ?_
  refine mx_iload_n (j := 3) hC dL_law_1524 rfl rfl ?_
  refine mx_iconst (v := 2) hC dL_law_1525 (by decide) ?_
  refine mx_iadd hC dL_law_1526 ?_
  obtain ⟨hi356, h⟩ := h
  refine mx_sld hC hSC hi356 dL_law_1527 ?_
  obtain ⟨ht357, h⟩ := h
  refine mx_callV (inj := mj_jL) (As := [vI (xs (l3 + 1 : Int32).toNatClampNeg), vI (xs (l3 + 2 : Int32).toNatClampNeg)]) (st := []) hC (ct_X11_share l1 (xs (l3 + 1 : Int32).toNatClampNeg) (xs (l3 + 2 : Int32).toNatClampNeg) M _ h) ty_X11_share tw1095 ht357 rfl (Nat.le_of_ble_eq_true rfl) ⟨rfl, rfl, ⟨by decide, by decide⟩, by show _ ≤ 600000; omega, by show _ ≤ 7302250; omega⟩ dL_law_1528 (fun r358 M359 h => ?_)
  show mj_X g 1531 [(0, vR ((b + 1))), (1, vR l1), (2, vR l2), (3, vI l3)] [vL r358] M359 k n
  refine mx_aload_n (j := 2) hC dL_law_1531 rfl rfl ?_
  refine mx_aload_n (j := 0) hC dL_law_1532 rfl rfl ?_
  refine mx_iload_n (j := 3) hC dL_law_1533 rfl rfl ?_
  refine mx_iconst (v := 1) hC dL_law_1534 (by decide) ?_
  refine mx_iadd hC dL_law_1535 ?_
  refine mx_sld hC hSC hi355 dL_law_1536 ?_
  refine mx_aload_n (j := 0) hC dL_law_1537 rfl rfl ?_
  refine mx_iload_n (j := 3) hC dL_law_1538 rfl rfl ?_
  refine mx_iconst (v := 2) hC dL_law_1539 (by decide) ?_
  refine mx_iadd hC dL_law_1540 ?_
  refine mx_sld hC hSC hi356 dL_law_1541 ?_
  obtain ⟨ht360, h⟩ := h
  refine mx_callV (inj := mj_jL) (As := [vI (xs (l3 + 1 : Int32).toNatClampNeg), vI (xs (l3 + 2 : Int32).toNatClampNeg)]) (st := [vL r358]) hC (ct_X12_share l2 (xs (l3 + 1 : Int32).toNatClampNeg) (xs (l3 + 2 : Int32).toNatClampNeg) M359 _ h) ty_X12_share tw1754 ht360 rfl (Nat.le_of_ble_eq_true rfl) ⟨rfl, rfl, ⟨by decide, by decide⟩, by show _ ≤ 600000; omega, by show _ ≤ 7302250; omega⟩ dL_law_1542 (fun r361 M362 h => ?_)
  show mj_X g 1545 [(0, vR ((b + 1))), (1, vR l1), (2, vR l2), (3, vI l3)] [vL r361, vL r358] M362 k n
  refine mx_lcmp hC dL_law_1545 ?_
  refine mx_ifeq (tgt := 1834) hC dL_law_1546 (by decide) (fun hc363 => ?_) (fun hc363 => ?_)
  · replace h := mj_yy hc363 h
    refine mx_sub (L' := [(0, vR (b + 1)), (1, vR l1), (2, vR l2), (3, vI l3)]) [0, 1, 2, 3] rfl ?_
    exact show mj_X g 1834 [(0, vR (b + 1)), (1, vR l1), (2, vR l2), (3, vI l3)] [] M362 k n from (xb_L_law_1834 (f := f) hC hE hSC hk18 l1 l2 l3 M362 _ _ (by omega) (by omega) h)
  · replace h := mj_nn hc363 h
    refine mx_iconst (v := 0) hC dL_law_1549 (by decide) ?_
    exact h.elim
set_option maxHeartbeats 4000000 in
set_option maxRecDepth 100000 in
theorem xb_L_law_1551 {b Ln : Nat} {xs : Nat → Int32} {g : mj_G} {nm : String} (hC : mj_C g ⟨R_law, nm, ""⟩ code 4 ret room_1) (hE : mj_EL g) (hSC : mj_SC g b Ln xs) {k18 : Nat → Nat → Int32 → mj_M → Prop} {f : Nat} (hk18 : ∀ (l1 : Nat) (l2 : Nat) (l3 : Int32) (M : mj_M) (k n : Nat), k + 2 * f ≤ 600000 → n + 52 * f ≤ 7302250 → k18 l1 l2 l3 M → mj_X g 18 [(0, vR (b + 1)), (1, vR l1), (2, vR l2), (3, vI l3)] [] M k n) (l1 : Nat) (l2 : Nat) (l3 : Int32) (M : mj_M) (k n : Nat) (hk : k + 2 * (f + 1) ≤ 600000) (hn : n + 52 * (f + 1) ≤ 7302250) (h : vb_L_law_1551 k18 xs Ln l1 l2 l3 M) : mj_X g 1551 [(0, vR (b + 1)), (1, vR l1), (2, vR l2), (3, vI l3)] [] M k n := by
  simp only [vb_L_law_1551] at h
  refine mx_aload_n (j := 1) hC dL_law_1551 rfl rfl ?_
  refine mx_aload_n (j := 0) hC dL_law_1552 rfl rfl ?_
  refine mx_iload_n (j := 3) hC dL_law_1553 rfl rfl ?_
  refine mx_iconst (v := 1) hC dL_law_1554 (by decide) ?_
  refine mx_iadd hC dL_law_1555 ?_
  obtain ⟨hi364, h⟩ := h
  refine mx_sld hC hSC hi364 dL_law_1556 ?_
  refine mx_aload_n (j := 0) hC dL_law_1557 rfl rfl ?_
  refine mx_iload_n (j := 3) hC dL_law_1558 rfl rfl ?_
  refine mx_iconst (v := 2) hC dL_law_1559 (by decide) ?_
  refine mx_iadd hC dL_law_1560 ?_
  obtain ⟨hi365, h⟩ := h
  refine mx_sld hC hSC hi365 dL_law_1561 ?_
  obtain ⟨ht366, h⟩ := h
  refine mx_callV (inj := mj_jI) (As := [vI (xs (l3 + 1 : Int32).toNatClampNeg), vI (xs (l3 + 2 : Int32).toNatClampNeg)]) (st := []) hC (ct_X11_may l1 (xs (l3 + 1 : Int32).toNatClampNeg) (xs (l3 + 2 : Int32).toNatClampNeg) M _ h) ty_X11_may tw1104 ht366 rfl (Nat.le_of_ble_eq_true rfl) ⟨rfl, rfl, ⟨by decide, by decide⟩, by show _ ≤ 600000; omega, by show _ ≤ 7302250; omega⟩ dL_law_1562 (fun r367 M368 h => ?_)
  show mj_X g 1565 [(0, vR ((b + 1))), (1, vR l1), (2, vR l2), (3, vI l3)] [vI r367] M368 k n
  refine mx_aload_n (j := 2) hC dL_law_1565 rfl rfl ?_
  refine mx_aload_n (j := 0) hC dL_law_1566 rfl rfl ?_
  refine mx_iload_n (j := 3) hC dL_law_1567 rfl rfl ?_
  refine mx_iconst (v := 1) hC dL_law_1568 (by decide) ?_
  refine mx_iadd hC dL_law_1569 ?_
  refine mx_sld hC hSC hi364 dL_law_1570 ?_
  refine mx_aload_n (j := 0) hC dL_law_1571 rfl rfl ?_
  refine mx_iload_n (j := 3) hC dL_law_1572 rfl rfl ?_
  refine mx_iconst (v := 2) hC dL_law_1573 (by decide) ?_
  refine mx_iadd hC dL_law_1574 ?_
  refine mx_sld hC hSC hi365 dL_law_1575 ?_
  obtain ⟨ht369, h⟩ := h
  refine mx_callV (inj := mj_jI) (As := [vI (xs (l3 + 1 : Int32).toNatClampNeg), vI (xs (l3 + 2 : Int32).toNatClampNeg)]) (st := [vI r367]) hC (ct_X12_may l2 (xs (l3 + 1 : Int32).toNatClampNeg) (xs (l3 + 2 : Int32).toNatClampNeg) M368 _ h) ty_X12_may tw1763 ht369 rfl (Nat.le_of_ble_eq_true rfl) ⟨rfl, rfl, ⟨by decide, by decide⟩, by show _ ≤ 600000; omega, by show _ ≤ 7302250; omega⟩ dL_law_1576 (fun r370 M371 h => ?_)
  show mj_X g 1579 [(0, vR ((b + 1))), (1, vR l1), (2, vR l2), (3, vI l3)] [vI r370, vI r367] M371 k n
  refine mx_icmpeq (tgt := 1834) hC dL_law_1579 (by decide) (fun hc372 => ?_) (fun hc372 => ?_)
  · replace h := mj_yy hc372 h
    refine mx_sub (L' := [(0, vR (b + 1)), (1, vR l1), (2, vR l2), (3, vI l3)]) [0, 1, 2, 3] rfl ?_
    exact show mj_X g 1834 [(0, vR (b + 1)), (1, vR l1), (2, vR l2), (3, vI l3)] [] M371 k n from (xb_L_law_1834 (f := f) hC hE hSC hk18 l1 l2 l3 M371 _ _ (by omega) (by omega) h)
  · replace h := mj_nn hc372 h
    refine mx_iconst (v := 0) hC dL_law_1582 (by decide) ?_
    exact h.elim
set_option maxHeartbeats 4000000 in
set_option maxRecDepth 100000 in
theorem xb_L_law_1584 {b Ln : Nat} {xs : Nat → Int32} {g : mj_G} {nm : String} (hC : mj_C g ⟨R_law, nm, ""⟩ code 4 ret room_1) (hE : mj_EL g) (hSC : mj_SC g b Ln xs) {k18 : Nat → Nat → Int32 → mj_M → Prop} {f : Nat} (hk18 : ∀ (l1 : Nat) (l2 : Nat) (l3 : Int32) (M : mj_M) (k n : Nat), k + 2 * f ≤ 600000 → n + 52 * f ≤ 7302250 → k18 l1 l2 l3 M → mj_X g 18 [(0, vR (b + 1)), (1, vR l1), (2, vR l2), (3, vI l3)] [] M k n) (l1 : Nat) (l2 : Nat) (l3 : Int32) (M : mj_M) (k n : Nat) (hk : k + 2 * (f + 1) ≤ 600000) (hn : n + 52 * (f + 1) ≤ 7302250) (h : vb_L_law_1584 k18 xs Ln l1 l2 l3 M) : mj_X g 1584 [(0, vR (b + 1)), (1, vR l1), (2, vR l2), (3, vI l3)] [] M k n := by
  simp only [vb_L_law_1584] at h
  refine mx_aload_n (j := 1) hC dL_law_1584 rfl rfl ?_
  refine mx_aload_n (j := 0) hC dL_law_1585 rfl rfl ?_
  refine mx_iload_n (j := 3) hC dL_law_1586 rfl rfl ?_
  refine mx_iconst (v := 1) hC dL_law_1587 (by decide) ?_
  refine mx_iadd hC dL_law_1588 ?_
  obtain ⟨hi373, h⟩ := h
  refine mx_sld hC hSC hi373 dL_law_1589 ?_
  refine mx_aload_n (j := 0) hC dL_law_1590 rfl rfl ?_
  refine mx_iload_n (j := 3) hC dL_law_1591 rfl rfl ?_
  refine mx_iconst (v := 2) hC dL_law_1592 (by decide) ?_
  refine mx_iadd hC dL_law_1593 ?_
  obtain ⟨hi374, h⟩ := h
  refine mx_sld hC hSC hi374 dL_law_1594 ?_
  obtain ⟨ht375, h⟩ := h
  refine mx_callV (inj := mj_jI) (As := [vI (xs (l3 + 1 : Int32).toNatClampNeg), vI (xs (l3 + 2 : Int32).toNatClampNeg)]) (st := []) hC (ct_X11_more l1 (xs (l3 + 1 : Int32).toNatClampNeg) (xs (l3 + 2 : Int32).toNatClampNeg) M _ h) ty_X11_more tw1131 ht375 rfl (Nat.le_of_ble_eq_true rfl) ⟨rfl, rfl, ⟨by decide, by decide⟩, by show _ ≤ 600000; omega, by show _ ≤ 7302250; omega⟩ dL_law_1595 (fun r376 M377 h => ?_)
  show mj_X g 1598 [(0, vR ((b + 1))), (1, vR l1), (2, vR l2), (3, vI l3)] [vI r376] M377 k n
  refine mx_aload_n (j := 2) hC dL_law_1598 rfl rfl ?_
  refine mx_aload_n (j := 0) hC dL_law_1599 rfl rfl ?_
  refine mx_iload_n (j := 3) hC dL_law_1600 rfl rfl ?_
  refine mx_iconst (v := 1) hC dL_law_1601 (by decide) ?_
  refine mx_iadd hC dL_law_1602 ?_
  refine mx_sld hC hSC hi373 dL_law_1603 ?_
  refine mx_aload_n (j := 0) hC dL_law_1604 rfl rfl ?_
  refine mx_iload_n (j := 3) hC dL_law_1605 rfl rfl ?_
  refine mx_iconst (v := 2) hC dL_law_1606 (by decide) ?_
  refine mx_iadd hC dL_law_1607 ?_
  refine mx_sld hC hSC hi374 dL_law_1608 ?_
  obtain ⟨ht378, h⟩ := h
  refine mx_callV (inj := mj_jI) (As := [vI (xs (l3 + 1 : Int32).toNatClampNeg), vI (xs (l3 + 2 : Int32).toNatClampNeg)]) (st := [vI r376]) hC (ct_X12_more l2 (xs (l3 + 1 : Int32).toNatClampNeg) (xs (l3 + 2 : Int32).toNatClampNeg) M377 _ h) ty_X12_more tw1784 ht378 rfl (Nat.le_of_ble_eq_true rfl) ⟨rfl, rfl, ⟨by decide, by decide⟩, by show _ ≤ 600000; omega, by show _ ≤ 7302250; omega⟩ dL_law_1609 (fun r379 M380 h => ?_)
  show mj_X g 1612 [(0, vR ((b + 1))), (1, vR l1), (2, vR l2), (3, vI l3)] [vI r379, vI r376] M380 k n
  refine mx_icmpeq (tgt := 1834) hC dL_law_1612 (by decide) (fun hc381 => ?_) (fun hc381 => ?_)
  · replace h := mj_yy hc381 h
    refine mx_sub (L' := [(0, vR (b + 1)), (1, vR l1), (2, vR l2), (3, vI l3)]) [0, 1, 2, 3] rfl ?_
    exact show mj_X g 1834 [(0, vR (b + 1)), (1, vR l1), (2, vR l2), (3, vI l3)] [] M380 k n from (xb_L_law_1834 (f := f) hC hE hSC hk18 l1 l2 l3 M380 _ _ (by omega) (by omega) h)
  · replace h := mj_nn hc381 h
    refine mx_iconst (v := 0) hC dL_law_1615 (by decide) ?_
    exact h.elim
set_option maxHeartbeats 4000000 in
set_option maxRecDepth 100000 in
theorem xb_L_law_1658 {b Ln : Nat} {xs : Nat → Int32} {g : mj_G} {nm : String} (hC : mj_C g ⟨R_law, nm, ""⟩ code 4 ret room_1) (hE : mj_EL g) (hSC : mj_SC g b Ln xs) {k18 : Nat → Nat → Int32 → mj_M → Prop} {f : Nat} (hk18 : ∀ (l1 : Nat) (l2 : Nat) (l3 : Int32) (M : mj_M) (k n : Nat), k + 2 * f ≤ 600000 → n + 52 * f ≤ 7302250 → k18 l1 l2 l3 M → mj_X g 18 [(0, vR (b + 1)), (1, vR l1), (2, vR l2), (3, vI l3)] [] M k n) (l1 : Nat) (l2 : Nat) (l3 : Int32) (s0 : Int32) (s1 : Nat) (s2 : Int32) (s3 : Bool) (M : mj_M) (k n : Nat) (hk : k + 2 * (f + 1) ≤ 600000) (hn : n + 52 * (f + 1) ≤ 7302250) (h : vb_L_law_1658 k18 xs Ln l1 l2 l3 s0 s1 s2 s3 M) : mj_X g 1658 [(0, vR (b + 1)), (1, vR l1), (2, vR l2), (3, vI l3)] [vI (mj_b s3), vI s2, vR s1, vI s0] M k n := by
  simp only [vb_L_law_1658] at h
  obtain ⟨ht382, h⟩ := h
  refine mx_callV (inj := mj_jI) (As := [vI s2, vI (mj_b s3)]) (st := [vI s0]) hC (ct_X12_breach s1 s2 s3 M _ h) ty_X12_breach tw1788 ht382 rfl (Nat.le_of_ble_eq_true rfl) ⟨rfl, rfl, ⟨by decide, by decide⟩, by show _ ≤ 600000; omega, by show _ ≤ 7302250; omega⟩ dL_law_1658 (fun r383 M384 h => ?_)
  show mj_X g 1661 [(0, vR ((b + 1))), (1, vR l1), (2, vR l2), (3, vI l3)] [vI r383, vI s0] M384 k n
  refine mx_icmpeq (tgt := 1834) hC dL_law_1661 (by decide) (fun hc385 => ?_) (fun hc385 => ?_)
  · replace h := mj_yy hc385 h
    refine mx_sub (L' := [(0, vR (b + 1)), (1, vR l1), (2, vR l2), (3, vI l3)]) [0, 1, 2, 3] rfl ?_
    exact show mj_X g 1834 [(0, vR (b + 1)), (1, vR l1), (2, vR l2), (3, vI l3)] [] M384 k n from (xb_L_law_1834 (f := f) hC hE hSC hk18 l1 l2 l3 M384 _ _ (by omega) (by omega) h)
  · replace h := mj_nn hc385 h
    refine mx_iconst (v := 0) hC dL_law_1664 (by decide) ?_
    exact h.elim
set_option maxHeartbeats 4000000 in
set_option maxRecDepth 100000 in
theorem xb_L_law_1636 {b Ln : Nat} {xs : Nat → Int32} {g : mj_G} {nm : String} (hC : mj_C g ⟨R_law, nm, ""⟩ code 4 ret room_1) (hE : mj_EL g) (hSC : mj_SC g b Ln xs) {k18 : Nat → Nat → Int32 → mj_M → Prop} {f : Nat} (hk18 : ∀ (l1 : Nat) (l2 : Nat) (l3 : Int32) (M : mj_M) (k n : Nat), k + 2 * f ≤ 600000 → n + 52 * f ≤ 7302250 → k18 l1 l2 l3 M → mj_X g 18 [(0, vR (b + 1)), (1, vR l1), (2, vR l2), (3, vI l3)] [] M k n) (l1 : Nat) (l2 : Nat) (l3 : Int32) (s0 : Nat) (s1 : Int32) (s2 : Bool) (M : mj_M) (k n : Nat) (hk : k + 2 * (f + 1) ≤ 600000) (hn : n + 52 * (f + 1) ≤ 7302250) (h : vb_L_law_1636 k18 xs Ln l1 l2 l3 s0 s1 s2 M) : mj_X g 1636 [(0, vR (b + 1)), (1, vR l1), (2, vR l2), (3, vI l3)] [vI (mj_b s2), vI s1, vR s0] M k n := by
  simp only [vb_L_law_1636] at h
  obtain ⟨ht386, h⟩ := h
  refine mx_callV (inj := mj_jI) (As := [vI s1, vI (mj_b s2)]) (st := []) hC (ct_X11_breach s0 s1 s2 M _ h) ty_X11_breach tw1135 ht386 rfl (Nat.le_of_ble_eq_true rfl) ⟨rfl, rfl, ⟨by decide, by decide⟩, by show _ ≤ 600000; omega, by show _ ≤ 7302250; omega⟩ dL_law_1636 (fun r387 M388 h => ?_)
  show mj_X g 1639 [(0, vR ((b + 1))), (1, vR l1), (2, vR l2), (3, vI l3)] [vI r387] M388 k n
  refine mx_aload_n (j := 2) hC dL_law_1639 rfl rfl ?_
  refine mx_aload_n (j := 0) hC dL_law_1640 rfl rfl ?_
  refine mx_iload_n (j := 3) hC dL_law_1641 rfl rfl ?_
  refine mx_iconst (v := 1) hC dL_law_1642 (by decide) ?_
  refine mx_iadd hC dL_law_1643 ?_
  obtain ⟨hi389, h⟩ := h
  refine mx_sld hC hSC hi389 dL_law_1644 ?_
  refine mx_aload_n (j := 0) hC dL_law_1645 rfl rfl ?_
  refine mx_iload_n (j := 3) hC dL_law_1646 rfl rfl ?_
  refine mx_iconst (v := 2) hC dL_law_1647 (by decide) ?_
  refine mx_iadd hC dL_law_1648 ?_
  obtain ⟨hi390, h⟩ := h
  refine mx_sld hC hSC hi390 dL_law_1649 ?_
  refine mx_ifeq (tgt := 1657) hC dL_law_1650 (by decide) (fun hc391 => ?_) (fun hc391 => ?_)
  · replace h := mj_yy hc391 h
    refine mx_iconst (v := 0) hC dL_law_1657 (by decide) ?_
    refine mx_sub (L' := [(0, vR (b + 1)), (1, vR l1), (2, vR l2), (3, vI l3)]) [0, 1, 2, 3] rfl ?_
    exact show mj_X g 1658 [(0, vR (b + 1)), (1, vR l1), (2, vR l2), (3, vI l3)] [vI (mj_b false), vI (xs (l3 + 1 : Int32).toNatClampNeg), vR l2, vI r387] M388 k n from (xb_L_law_1658 (f := f) hC hE hSC hk18 l1 l2 l3 r387 l2 (xs (l3 + 1 : Int32).toNatClampNeg) false M388 _ _ (by omega) (by omega) h)
  · replace h := mj_nn hc391 h
    refine mx_iconst (v := 1) hC dL_law_1653 (by decide) ?_
    refine mx_goto (tgt := 1658) hC dL_law_1654 (by decide) ?_
    refine mx_sub (L' := [(0, vR (b + 1)), (1, vR l1), (2, vR l2), (3, vI l3)]) [0, 1, 2, 3] rfl ?_
    exact show mj_X g 1658 [(0, vR (b + 1)), (1, vR l1), (2, vR l2), (3, vI l3)] [vI (mj_b true), vI (xs (l3 + 1 : Int32).toNatClampNeg), vR l2, vI r387] M388 k n from (xb_L_law_1658 (f := f) hC hE hSC hk18 l1 l2 l3 r387 l2 (xs (l3 + 1 : Int32).toNatClampNeg) true M388 _ _ (by omega) (by omega) h)
set_option maxHeartbeats 4000000 in
set_option maxRecDepth 100000 in
theorem xb_L_law_1617 {b Ln : Nat} {xs : Nat → Int32} {g : mj_G} {nm : String} (hC : mj_C g ⟨R_law, nm, ""⟩ code 4 ret room_1) (hE : mj_EL g) (hSC : mj_SC g b Ln xs) {k18 : Nat → Nat → Int32 → mj_M → Prop} {f : Nat} (hk18 : ∀ (l1 : Nat) (l2 : Nat) (l3 : Int32) (M : mj_M) (k n : Nat), k + 2 * f ≤ 600000 → n + 52 * f ≤ 7302250 → k18 l1 l2 l3 M → mj_X g 18 [(0, vR (b + 1)), (1, vR l1), (2, vR l2), (3, vI l3)] [] M k n) (l1 : Nat) (l2 : Nat) (l3 : Int32) (M : mj_M) (k n : Nat) (hk : k + 2 * (f + 1) ≤ 600000) (hn : n + 52 * (f + 1) ≤ 7302250) (h : vb_L_law_1617 k18 xs Ln l1 l2 l3 M) : mj_X g 1617 [(0, vR (b + 1)), (1, vR l1), (2, vR l2), (3, vI l3)] [] M k n := by
  simp only [vb_L_law_1617] at h
  refine mx_aload_n (j := 1) hC dL_law_1617 rfl rfl ?_
  refine mx_aload_n (j := 0) hC dL_law_1618 rfl rfl ?_
  refine mx_iload_n (j := 3) hC dL_law_1619 rfl rfl ?_
  refine mx_iconst (v := 1) hC dL_law_1620 (by decide) ?_
  refine mx_iadd hC dL_law_1621 ?_
  obtain ⟨hi392, h⟩ := h
  refine mx_sld hC hSC hi392 dL_law_1622 ?_
  refine mx_aload_n (j := 0) hC dL_law_1623 rfl rfl ?_
  refine mx_iload_n (j := 3) hC dL_law_1624 rfl rfl ?_
  refine mx_iconst (v := 2) hC dL_law_1625 (by decide) ?_
  refine mx_iadd hC dL_law_1626 ?_
  obtain ⟨hi393, h⟩ := h
  refine mx_sld hC hSC hi393 dL_law_1627 ?_
  refine mx_ifeq (tgt := 1635) hC dL_law_1628 (by decide) (fun hc394 => ?_) (fun hc394 => ?_)
  · replace h := mj_yy hc394 h
    refine mx_iconst (v := 0) hC dL_law_1635 (by decide) ?_
    refine mx_sub (L' := [(0, vR (b + 1)), (1, vR l1), (2, vR l2), (3, vI l3)]) [0, 1, 2, 3] rfl ?_
    exact show mj_X g 1636 [(0, vR (b + 1)), (1, vR l1), (2, vR l2), (3, vI l3)] [vI (mj_b false), vI (xs (l3 + 1 : Int32).toNatClampNeg), vR l1] M k n from (xb_L_law_1636 (f := f) hC hE hSC hk18 l1 l2 l3 l1 (xs (l3 + 1 : Int32).toNatClampNeg) false M _ _ (by omega) (by omega) h)
  · replace h := mj_nn hc394 h
    refine mx_iconst (v := 1) hC dL_law_1631 (by decide) ?_
    refine mx_goto (tgt := 1636) hC dL_law_1632 (by decide) ?_
    refine mx_sub (L' := [(0, vR (b + 1)), (1, vR l1), (2, vR l2), (3, vI l3)]) [0, 1, 2, 3] rfl ?_
    exact show mj_X g 1636 [(0, vR (b + 1)), (1, vR l1), (2, vR l2), (3, vI l3)] [vI (mj_b true), vI (xs (l3 + 1 : Int32).toNatClampNeg), vR l1] M k n from (xb_L_law_1636 (f := f) hC hE hSC hk18 l1 l2 l3 l1 (xs (l3 + 1 : Int32).toNatClampNeg) true M _ _ (by omega) (by omega) h)
set_option maxHeartbeats 4000000 in
set_option maxRecDepth 100000 in
theorem xb_L_law_1666 {b Ln : Nat} {xs : Nat → Int32} {g : mj_G} {nm : String} (hC : mj_C g ⟨R_law, nm, ""⟩ code 4 ret room_1) (hE : mj_EL g) (hSC : mj_SC g b Ln xs) {k18 : Nat → Nat → Int32 → mj_M → Prop} {f : Nat} (hk18 : ∀ (l1 : Nat) (l2 : Nat) (l3 : Int32) (M : mj_M) (k n : Nat), k + 2 * f ≤ 600000 → n + 52 * f ≤ 7302250 → k18 l1 l2 l3 M → mj_X g 18 [(0, vR (b + 1)), (1, vR l1), (2, vR l2), (3, vI l3)] [] M k n) (l1 : Nat) (l2 : Nat) (l3 : Int32) (M : mj_M) (k n : Nat) (hk : k + 2 * (f + 1) ≤ 600000) (hn : n + 52 * (f + 1) ≤ 7302250) (h : vb_L_law_1666 k18 xs Ln l1 l2 l3 M) : mj_X g 1666 [(0, vR (b + 1)), (1, vR l1), (2, vR l2), (3, vI l3)] [] M k n := by
  simp only [vb_L_law_1666] at h
  refine mx_aload_n (j := 1) hC dL_law_1666 rfl rfl ?_
  refine mx_aload_n (j := 0) hC dL_law_1667 rfl rfl ?_
  refine mx_iload_n (j := 3) hC dL_law_1668 rfl rfl ?_
  refine mx_iconst (v := 1) hC dL_law_1669 (by decide) ?_
  refine mx_iadd hC dL_law_1670 ?_
  obtain ⟨hi395, h⟩ := h
  refine mx_sld hC hSC hi395 dL_law_1671 ?_
  obtain ⟨ht396, h⟩ := h
  refine mx_callV (inj := mj_jI) (As := [vI (xs (l3 + 1 : Int32).toNatClampNeg)]) (st := []) hC (ct_X11_forfeit l1 (xs (l3 + 1 : Int32).toNatClampNeg) M _ h) ty_X11_forfeit tw1139 ht396 rfl (Nat.le_of_ble_eq_true rfl) ⟨rfl, rfl, ⟨by decide, by decide⟩, by show _ ≤ 600000; omega, by show _ ≤ 7302250; omega⟩ dL_law_1672 (fun r397 M398 h => ?_)
  show mj_X g 1675 [(0, vR ((b + 1))), (1, vR l1), (2, vR l2), (3, vI l3)] [vI r397] M398 k n
  refine mx_aload_n (j := 2) hC dL_law_1675 rfl rfl ?_
  refine mx_aload_n (j := 0) hC dL_law_1676 rfl rfl ?_
  refine mx_iload_n (j := 3) hC dL_law_1677 rfl rfl ?_
  refine mx_iconst (v := 1) hC dL_law_1678 (by decide) ?_
  refine mx_iadd hC dL_law_1679 ?_
  refine mx_sld hC hSC hi395 dL_law_1680 ?_
  obtain ⟨ht399, h⟩ := h
  refine mx_callV (inj := mj_jI) (As := [vI (xs (l3 + 1 : Int32).toNatClampNeg)]) (st := [vI r397]) hC (ct_X12_forfeit l2 (xs (l3 + 1 : Int32).toNatClampNeg) M398 _ h) ty_X12_forfeit tw1792 ht399 rfl (Nat.le_of_ble_eq_true rfl) ⟨rfl, rfl, ⟨by decide, by decide⟩, by show _ ≤ 600000; omega, by show _ ≤ 7302250; omega⟩ dL_law_1681 (fun r400 M401 h => ?_)
  show mj_X g 1684 [(0, vR ((b + 1))), (1, vR l1), (2, vR l2), (3, vI l3)] [vI r400, vI r397] M401 k n
  refine mx_icmpeq (tgt := 1834) hC dL_law_1684 (by decide) (fun hc402 => ?_) (fun hc402 => ?_)
  · replace h := mj_yy hc402 h
    refine mx_sub (L' := [(0, vR (b + 1)), (1, vR l1), (2, vR l2), (3, vI l3)]) [0, 1, 2, 3] rfl ?_
    exact show mj_X g 1834 [(0, vR (b + 1)), (1, vR l1), (2, vR l2), (3, vI l3)] [] M401 k n from (xb_L_law_1834 (f := f) hC hE hSC hk18 l1 l2 l3 M401 _ _ (by omega) (by omega) h)
  · replace h := mj_nn hc402 h
    refine mx_iconst (v := 0) hC dL_law_1687 (by decide) ?_
    exact h.elim
set_option maxHeartbeats 4000000 in
set_option maxRecDepth 100000 in
theorem xb_L_law_1689 {b Ln : Nat} {xs : Nat → Int32} {g : mj_G} {nm : String} (hC : mj_C g ⟨R_law, nm, ""⟩ code 4 ret room_1) (hE : mj_EL g) (hSC : mj_SC g b Ln xs) {k18 : Nat → Nat → Int32 → mj_M → Prop} {f : Nat} (hk18 : ∀ (l1 : Nat) (l2 : Nat) (l3 : Int32) (M : mj_M) (k n : Nat), k + 2 * f ≤ 600000 → n + 52 * f ≤ 7302250 → k18 l1 l2 l3 M → mj_X g 18 [(0, vR (b + 1)), (1, vR l1), (2, vR l2), (3, vI l3)] [] M k n) (l1 : Nat) (l2 : Nat) (l3 : Int32) (M : mj_M) (k n : Nat) (hk : k + 2 * (f + 1) ≤ 600000) (hn : n + 52 * (f + 1) ≤ 7302250) (h : vb_L_law_1689 k18 xs Ln l1 l2 l3 M) : mj_X g 1689 [(0, vR (b + 1)), (1, vR l1), (2, vR l2), (3, vI l3)] [] M k n := by
  simp only [vb_L_law_1689] at h
  refine mx_aload_n (j := 1) hC dL_law_1689 rfl rfl ?_
  refine mx_aload_n (j := 0) hC dL_law_1690 rfl rfl ?_
  refine mx_iload_n (j := 3) hC dL_law_1691 rfl rfl ?_
  refine mx_iconst (v := 1) hC dL_law_1692 (by decide) ?_
  refine mx_iadd hC dL_law_1693 ?_
  obtain ⟨hi403, h⟩ := h
  refine mx_sld hC hSC hi403 dL_law_1694 ?_
  obtain ⟨ht404, h⟩ := h
  refine mx_callV (inj := mj_jI) (As := [vI (xs (l3 + 1 : Int32).toNatClampNeg)]) (st := []) hC (ct_X11_relieve l1 (xs (l3 + 1 : Int32).toNatClampNeg) M _ h) ty_X11_relieve tw1144 ht404 rfl (Nat.le_of_ble_eq_true rfl) ⟨rfl, rfl, ⟨by decide, by decide⟩, by show _ ≤ 600000; omega, by show _ ≤ 7302250; omega⟩ dL_law_1695 (fun r405 M406 h => ?_)
  show mj_X g 1698 [(0, vR ((b + 1))), (1, vR l1), (2, vR l2), (3, vI l3)] [vI r405] M406 k n
  refine mx_aload_n (j := 2) hC dL_law_1698 rfl rfl ?_
  refine mx_aload_n (j := 0) hC dL_law_1699 rfl rfl ?_
  refine mx_iload_n (j := 3) hC dL_law_1700 rfl rfl ?_
  refine mx_iconst (v := 1) hC dL_law_1701 (by decide) ?_
  refine mx_iadd hC dL_law_1702 ?_
  refine mx_sld hC hSC hi403 dL_law_1703 ?_
  obtain ⟨ht407, h⟩ := h
  refine mx_callV (inj := mj_jI) (As := [vI (xs (l3 + 1 : Int32).toNatClampNeg)]) (st := [vI r405]) hC (ct_X12_relieve l2 (xs (l3 + 1 : Int32).toNatClampNeg) M406 _ h) ty_X12_relieve tw1796 ht407 rfl (Nat.le_of_ble_eq_true rfl) ⟨rfl, rfl, ⟨by decide, by decide⟩, by show _ ≤ 600000; omega, by show _ ≤ 7302250; omega⟩ dL_law_1704 (fun r408 M409 h => ?_)
  show mj_X g 1707 [(0, vR ((b + 1))), (1, vR l1), (2, vR l2), (3, vI l3)] [vI r408, vI r405] M409 k n
  refine mx_icmpeq (tgt := 1834) hC dL_law_1707 (by decide) (fun hc410 => ?_) (fun hc410 => ?_)
  · replace h := mj_yy hc410 h
    refine mx_sub (L' := [(0, vR (b + 1)), (1, vR l1), (2, vR l2), (3, vI l3)]) [0, 1, 2, 3] rfl ?_
    exact show mj_X g 1834 [(0, vR (b + 1)), (1, vR l1), (2, vR l2), (3, vI l3)] [] M409 k n from (xb_L_law_1834 (f := f) hC hE hSC hk18 l1 l2 l3 M409 _ _ (by omega) (by omega) h)
  · replace h := mj_nn hc410 h
    refine mx_iconst (v := 0) hC dL_law_1710 (by decide) ?_
    exact h.elim
set_option maxHeartbeats 4000000 in
set_option maxRecDepth 100000 in
theorem xb_L_law_1712 {b Ln : Nat} {xs : Nat → Int32} {g : mj_G} {nm : String} (hC : mj_C g ⟨R_law, nm, ""⟩ code 4 ret room_1) (hE : mj_EL g) (hSC : mj_SC g b Ln xs) {k18 : Nat → Nat → Int32 → mj_M → Prop} {f : Nat} (hk18 : ∀ (l1 : Nat) (l2 : Nat) (l3 : Int32) (M : mj_M) (k n : Nat), k + 2 * f ≤ 600000 → n + 52 * f ≤ 7302250 → k18 l1 l2 l3 M → mj_X g 18 [(0, vR (b + 1)), (1, vR l1), (2, vR l2), (3, vI l3)] [] M k n) (l1 : Nat) (l2 : Nat) (l3 : Int32) (M : mj_M) (k n : Nat) (hk : k + 2 * (f + 1) ≤ 600000) (hn : n + 52 * (f + 1) ≤ 7302250) (h : vb_L_law_1712 k18 xs Ln l1 l2 l3 M) : mj_X g 1712 [(0, vR (b + 1)), (1, vR l1), (2, vR l2), (3, vI l3)] [] M k n := by
  simp only [vb_L_law_1712] at h
  refine mx_aload_n (j := 1) hC dL_law_1712 rfl rfl ?_
  refine mx_aload_n (j := 0) hC dL_law_1713 rfl rfl ?_
  refine mx_iload_n (j := 3) hC dL_law_1714 rfl rfl ?_
  refine mx_iconst (v := 1) hC dL_law_1715 (by decide) ?_
  refine mx_iadd hC dL_law_1716 ?_
  obtain ⟨hi411, h⟩ := h
  refine mx_sld hC hSC hi411 dL_law_1717 ?_
  refine mx_aload_n (j := 0) hC dL_law_1718 rfl rfl ?_
  refine mx_iload_n (j := 3) hC dL_law_1719 rfl rfl ?_
  refine mx_iconst (v := 2) hC dL_law_1720 (by decide) ?_
  refine mx_iadd hC dL_law_1721 ?_
  obtain ⟨hi412, h⟩ := h
  refine mx_sld hC hSC hi412 dL_law_1722 ?_
  refine mx_aload_n (j := 0) hC dL_law_1723 rfl rfl ?_
  refine mx_iload_n (j := 3) hC dL_law_1724 rfl rfl ?_
  refine mx_iconst (v := 3) hC dL_law_1725 (by decide) ?_
  refine mx_iadd hC dL_law_1726 ?_
  obtain ⟨hi413, h⟩ := h
  refine mx_sld hC hSC hi413 dL_law_1727 ?_
  refine mx_aload_n (j := 0) hC dL_law_1728 rfl rfl ?_
  refine mx_iload_n (j := 3) hC dL_law_1729 rfl rfl ?_
  refine mx_iconst (v := 4) hC dL_law_1730 (by decide) ?_
  refine mx_iadd hC dL_law_1731 ?_
  obtain ⟨hi414, h⟩ := h
  refine mx_sld hC hSC hi414 dL_law_1732 ?_
  obtain ⟨ht415, h⟩ := h
  refine mx_callV (inj := mj_jI) (As := [vI (xs (l3 + 1 : Int32).toNatClampNeg), vI (xs (l3 + 2 : Int32).toNatClampNeg), vI (xs (l3 + 3 : Int32).toNatClampNeg), vI (xs (l3 + 4 : Int32).toNatClampNeg)]) (st := []) hC (ct_X11_line l1 (xs (l3 + 1 : Int32).toNatClampNeg) (xs (l3 + 2 : Int32).toNatClampNeg) (xs (l3 + 3 : Int32).toNatClampNeg) (xs (l3 + 4 : Int32).toNatClampNeg) M _ h) ty_X11_line tw1157 ht415 rfl (Nat.le_of_ble_eq_true rfl) ⟨rfl, rfl, ⟨by decide, by decide⟩, by show _ ≤ 600000; omega, by show _ ≤ 7302250; omega⟩ dL_law_1733 (fun r416 M417 h => ?_)
  show mj_X g 1736 [(0, vR ((b + 1))), (1, vR l1), (2, vR l2), (3, vI l3)] [vI r416] M417 k n
  refine mx_aload_n (j := 2) hC dL_law_1736 rfl rfl ?_
  refine mx_aload_n (j := 0) hC dL_law_1737 rfl rfl ?_
  refine mx_iload_n (j := 3) hC dL_law_1738 rfl rfl ?_
  refine mx_iconst (v := 1) hC dL_law_1739 (by decide) ?_
  refine mx_iadd hC dL_law_1740 ?_
  refine mx_sld hC hSC hi411 dL_law_1741 ?_
  refine mx_aload_n (j := 0) hC dL_law_1742 rfl rfl ?_
  refine mx_iload_n (j := 3) hC dL_law_1743 rfl rfl ?_
  refine mx_iconst (v := 2) hC dL_law_1744 (by decide) ?_
  refine mx_iadd hC dL_law_1745 ?_
  refine mx_sld hC hSC hi412 dL_law_1746 ?_
  refine mx_aload_n (j := 0) hC dL_law_1747 rfl rfl ?_
  refine mx_iload_n (j := 3) hC dL_law_1748 rfl rfl ?_
  refine mx_iconst (v := 3) hC dL_law_1749 (by decide) ?_
  refine mx_iadd hC dL_law_1750 ?_
  refine mx_sld hC hSC hi413 dL_law_1751 ?_
  refine mx_aload_n (j := 0) hC dL_law_1752 rfl rfl ?_
  refine mx_iload_n (j := 3) hC dL_law_1753 rfl rfl ?_
  refine mx_iconst (v := 4) hC dL_law_1754 (by decide) ?_
  refine mx_iadd hC dL_law_1755 ?_
  refine mx_sld hC hSC hi414 dL_law_1756 ?_
  obtain ⟨ht418, h⟩ := h
  refine mx_callV (inj := mj_jI) (As := [vI (xs (l3 + 1 : Int32).toNatClampNeg), vI (xs (l3 + 2 : Int32).toNatClampNeg), vI (xs (l3 + 3 : Int32).toNatClampNeg), vI (xs (l3 + 4 : Int32).toNatClampNeg)]) (st := [vI r416]) hC (ct_X12_line l2 (xs (l3 + 1 : Int32).toNatClampNeg) (xs (l3 + 2 : Int32).toNatClampNeg) (xs (l3 + 3 : Int32).toNatClampNeg) (xs (l3 + 4 : Int32).toNatClampNeg) M417 _ h) ty_X12_line tw1800 ht418 rfl (Nat.le_of_ble_eq_true rfl) ⟨rfl, rfl, ⟨by decide, by decide⟩, by show _ ≤ 600000; omega, by show _ ≤ 7302250; omega⟩ dL_law_1757 (fun r419 M420 h => ?_)
  show mj_X g 1760 [(0, vR ((b + 1))), (1, vR l1), (2, vR l2), (3, vI l3)] [vI r419, vI r416] M420 k n
  refine mx_icmpeq (tgt := 1834) hC dL_law_1760 (by decide) (fun hc421 => ?_) (fun hc421 => ?_)
  · replace h := mj_yy hc421 h
    refine mx_sub (L' := [(0, vR (b + 1)), (1, vR l1), (2, vR l2), (3, vI l3)]) [0, 1, 2, 3] rfl ?_
    exact show mj_X g 1834 [(0, vR (b + 1)), (1, vR l1), (2, vR l2), (3, vI l3)] [] M420 k n from (xb_L_law_1834 (f := f) hC hE hSC hk18 l1 l2 l3 M420 _ _ (by omega) (by omega) h)
  · replace h := mj_nn hc421 h
    refine mx_iconst (v := 0) hC dL_law_1763 (by decide) ?_
    exact h.elim
set_option maxHeartbeats 4000000 in
set_option maxRecDepth 100000 in
theorem xb_L_law_1765 {b Ln : Nat} {xs : Nat → Int32} {g : mj_G} {nm : String} (hC : mj_C g ⟨R_law, nm, ""⟩ code 4 ret room_1) (hE : mj_EL g) (hSC : mj_SC g b Ln xs) {k18 : Nat → Nat → Int32 → mj_M → Prop} {f : Nat} (hk18 : ∀ (l1 : Nat) (l2 : Nat) (l3 : Int32) (M : mj_M) (k n : Nat), k + 2 * f ≤ 600000 → n + 52 * f ≤ 7302250 → k18 l1 l2 l3 M → mj_X g 18 [(0, vR (b + 1)), (1, vR l1), (2, vR l2), (3, vI l3)] [] M k n) (l1 : Nat) (l2 : Nat) (l3 : Int32) (M : mj_M) (k n : Nat) (hk : k + 2 * (f + 1) ≤ 600000) (hn : n + 52 * (f + 1) ≤ 7302250) (h : vb_L_law_1765 k18 xs Ln l1 l2 l3 M) : mj_X g 1765 [(0, vR (b + 1)), (1, vR l1), (2, vR l2), (3, vI l3)] [] M k n := by
  simp only [vb_L_law_1765] at h
  refine mx_aload_n (j := 1) hC dL_law_1765 rfl rfl ?_
  refine mx_aload_n (j := 0) hC dL_law_1766 rfl rfl ?_
  refine mx_iload_n (j := 3) hC dL_law_1767 rfl rfl ?_
  refine mx_iconst (v := 1) hC dL_law_1768 (by decide) ?_
  refine mx_iadd hC dL_law_1769 ?_
  obtain ⟨hi422, h⟩ := h
  refine mx_sld hC hSC hi422 dL_law_1770 ?_
  obtain ⟨ht423, h⟩ := h
  refine mx_callV (inj := mj_jI) (As := [vI (xs (l3 + 1 : Int32).toNatClampNeg)]) (st := []) hC (ct_X11_can l1 (xs (l3 + 1 : Int32).toNatClampNeg) M _ h) ty_X11_can tw1172 ht423 rfl (Nat.le_of_ble_eq_true rfl) ⟨rfl, rfl, ⟨by decide, by decide⟩, by show _ ≤ 600000; omega, by show _ ≤ 7302250; omega⟩ dL_law_1771 (fun r424 M425 h => ?_)
  show mj_X g 1774 [(0, vR ((b + 1))), (1, vR l1), (2, vR l2), (3, vI l3)] [vI r424] M425 k n
  refine mx_aload_n (j := 2) hC dL_law_1774 rfl rfl ?_
  refine mx_aload_n (j := 0) hC dL_law_1775 rfl rfl ?_
  refine mx_iload_n (j := 3) hC dL_law_1776 rfl rfl ?_
  refine mx_iconst (v := 1) hC dL_law_1777 (by decide) ?_
  refine mx_iadd hC dL_law_1778 ?_
  refine mx_sld hC hSC hi422 dL_law_1779 ?_
  obtain ⟨ht426, h⟩ := h
  refine mx_callV (inj := mj_jI) (As := [vI (xs (l3 + 1 : Int32).toNatClampNeg)]) (st := [vI r424]) hC (ct_X12_can l2 (xs (l3 + 1 : Int32).toNatClampNeg) M425 _ h) ty_X12_can tw1804 ht426 rfl (Nat.le_of_ble_eq_true rfl) ⟨rfl, rfl, ⟨by decide, by decide⟩, by show _ ≤ 600000; omega, by show _ ≤ 7302250; omega⟩ dL_law_1780 (fun r427 M428 h => ?_)
  show mj_X g 1783 [(0, vR ((b + 1))), (1, vR l1), (2, vR l2), (3, vI l3)] [vI r427, vI r424] M428 k n
  refine mx_icmpeq (tgt := 1834) hC dL_law_1783 (by decide) (fun hc429 => ?_) (fun hc429 => ?_)
  · replace h := mj_yy hc429 h
    refine mx_sub (L' := [(0, vR (b + 1)), (1, vR l1), (2, vR l2), (3, vI l3)]) [0, 1, 2, 3] rfl ?_
    exact show mj_X g 1834 [(0, vR (b + 1)), (1, vR l1), (2, vR l2), (3, vI l3)] [] M428 k n from (xb_L_law_1834 (f := f) hC hE hSC hk18 l1 l2 l3 M428 _ _ (by omega) (by omega) h)
  · replace h := mj_nn hc429 h
    refine mx_iconst (v := 0) hC dL_law_1786 (by decide) ?_
    exact h.elim
set_option maxHeartbeats 4000000 in
set_option maxRecDepth 100000 in
theorem xb_L_law_1788 {b Ln : Nat} {xs : Nat → Int32} {g : mj_G} {nm : String} (hC : mj_C g ⟨R_law, nm, ""⟩ code 4 ret room_1) (hE : mj_EL g) (hSC : mj_SC g b Ln xs) {k18 : Nat → Nat → Int32 → mj_M → Prop} {f : Nat} (hk18 : ∀ (l1 : Nat) (l2 : Nat) (l3 : Int32) (M : mj_M) (k n : Nat), k + 2 * f ≤ 600000 → n + 52 * f ≤ 7302250 → k18 l1 l2 l3 M → mj_X g 18 [(0, vR (b + 1)), (1, vR l1), (2, vR l2), (3, vI l3)] [] M k n) (l1 : Nat) (l2 : Nat) (l3 : Int32) (M : mj_M) (k n : Nat) (hk : k + 2 * (f + 1) ≤ 600000) (hn : n + 52 * (f + 1) ≤ 7302250) (h : vb_L_law_1788 k18 xs Ln l1 l2 l3 M) : mj_X g 1788 [(0, vR (b + 1)), (1, vR l1), (2, vR l2), (3, vI l3)] [] M k n := by
  simp only [vb_L_law_1788] at h
  refine mx_aload_n (j := 1) hC dL_law_1788 rfl rfl ?_
  refine mx_aload_n (j := 0) hC dL_law_1789 rfl rfl ?_
  refine mx_iload_n (j := 3) hC dL_law_1790 rfl rfl ?_
  refine mx_iconst (v := 1) hC dL_law_1791 (by decide) ?_
  refine mx_iadd hC dL_law_1792 ?_
  obtain ⟨hi430, h⟩ := h
  refine mx_sld hC hSC hi430 dL_law_1793 ?_
  obtain ⟨ht431, h⟩ := h
  refine mx_callV (inj := mj_jI) (As := [vI (xs (l3 + 1 : Int32).toNatClampNeg)]) (st := []) hC (ct_X11_doubted l1 (xs (l3 + 1 : Int32).toNatClampNeg) M _ h) ty_X11_doubted tw1188 ht431 rfl (Nat.le_of_ble_eq_true rfl) ⟨rfl, rfl, ⟨by decide, by decide⟩, by show _ ≤ 600000; omega, by show _ ≤ 7302250; omega⟩ dL_law_1794 (fun r432 M433 h => ?_)
  show mj_X g 1797 [(0, vR ((b + 1))), (1, vR l1), (2, vR l2), (3, vI l3)] [vI r432] M433 k n
  refine mx_aload_n (j := 2) hC dL_law_1797 rfl rfl ?_
  refine mx_aload_n (j := 0) hC dL_law_1798 rfl rfl ?_
  refine mx_iload_n (j := 3) hC dL_law_1799 rfl rfl ?_
  refine mx_iconst (v := 1) hC dL_law_1800 (by decide) ?_
  refine mx_iadd hC dL_law_1801 ?_
  refine mx_sld hC hSC hi430 dL_law_1802 ?_
  obtain ⟨ht434, h⟩ := h
  refine mx_callV (inj := mj_jI) (As := [vI (xs (l3 + 1 : Int32).toNatClampNeg)]) (st := [vI r432]) hC (ct_X12_doubted l2 (xs (l3 + 1 : Int32).toNatClampNeg) M433 _ h) ty_X12_doubted tw1820 ht434 rfl (Nat.le_of_ble_eq_true rfl) ⟨rfl, rfl, ⟨by decide, by decide⟩, by show _ ≤ 600000; omega, by show _ ≤ 7302250; omega⟩ dL_law_1803 (fun r435 M436 h => ?_)
  show mj_X g 1806 [(0, vR ((b + 1))), (1, vR l1), (2, vR l2), (3, vI l3)] [vI r435, vI r432] M436 k n
  refine mx_icmpeq (tgt := 1834) hC dL_law_1806 (by decide) (fun hc437 => ?_) (fun hc437 => ?_)
  · replace h := mj_yy hc437 h
    refine mx_sub (L' := [(0, vR (b + 1)), (1, vR l1), (2, vR l2), (3, vI l3)]) [0, 1, 2, 3] rfl ?_
    exact show mj_X g 1834 [(0, vR (b + 1)), (1, vR l1), (2, vR l2), (3, vI l3)] [] M436 k n from (xb_L_law_1834 (f := f) hC hE hSC hk18 l1 l2 l3 M436 _ _ (by omega) (by omega) h)
  · replace h := mj_nn hc437 h
    refine mx_iconst (v := 0) hC dL_law_1809 (by decide) ?_
    exact h.elim
set_option maxHeartbeats 4000000 in
set_option maxRecDepth 100000 in
theorem xb_L_law_1811 {b Ln : Nat} {xs : Nat → Int32} {g : mj_G} {nm : String} (hC : mj_C g ⟨R_law, nm, ""⟩ code 4 ret room_1) (hE : mj_EL g) (hSC : mj_SC g b Ln xs) {k18 : Nat → Nat → Int32 → mj_M → Prop} {f : Nat} (hk18 : ∀ (l1 : Nat) (l2 : Nat) (l3 : Int32) (M : mj_M) (k n : Nat), k + 2 * f ≤ 600000 → n + 52 * f ≤ 7302250 → k18 l1 l2 l3 M → mj_X g 18 [(0, vR (b + 1)), (1, vR l1), (2, vR l2), (3, vI l3)] [] M k n) (l1 : Nat) (l2 : Nat) (l3 : Int32) (M : mj_M) (k n : Nat) (hk : k + 2 * (f + 1) ≤ 600000) (hn : n + 52 * (f + 1) ≤ 7302250) (h : vb_L_law_1811 k18 xs Ln l1 l2 l3 M) : mj_X g 1811 [(0, vR (b + 1)), (1, vR l1), (2, vR l2), (3, vI l3)] [] M k n := by
  simp only [vb_L_law_1811] at h
  refine mx_aload_n (j := 1) hC dL_law_1811 rfl rfl ?_
  refine mx_aload_n (j := 0) hC dL_law_1812 rfl rfl ?_
  refine mx_iload_n (j := 3) hC dL_law_1813 rfl rfl ?_
  refine mx_iconst (v := 1) hC dL_law_1814 (by decide) ?_
  refine mx_iadd hC dL_law_1815 ?_
  obtain ⟨hi438, h⟩ := h
  refine mx_sld hC hSC hi438 dL_law_1816 ?_
  obtain ⟨ht439, h⟩ := h
  refine mx_callV (inj := mj_jI) (As := [vI (xs (l3 + 1 : Int32).toNatClampNeg)]) (st := []) hC (ct_X11_told l1 (xs (l3 + 1 : Int32).toNatClampNeg) M _ h) ty_X11_told tw1199 ht439 rfl (Nat.le_of_ble_eq_true rfl) ⟨rfl, rfl, ⟨by decide, by decide⟩, by show _ ≤ 600000; omega, by show _ ≤ 7302250; omega⟩ dL_law_1817 (fun r440 M441 h => ?_)
  show mj_X g 1820 [(0, vR ((b + 1))), (1, vR l1), (2, vR l2), (3, vI l3)] [vI r440] M441 k n
  refine mx_aload_n (j := 2) hC dL_law_1820 rfl rfl ?_
  refine mx_aload_n (j := 0) hC dL_law_1821 rfl rfl ?_
  refine mx_iload_n (j := 3) hC dL_law_1822 rfl rfl ?_
  refine mx_iconst (v := 1) hC dL_law_1823 (by decide) ?_
  refine mx_iadd hC dL_law_1824 ?_
  refine mx_sld hC hSC hi438 dL_law_1825 ?_
  obtain ⟨ht442, h⟩ := h
  refine mx_callV (inj := mj_jI) (As := [vI (xs (l3 + 1 : Int32).toNatClampNeg)]) (st := [vI r440]) hC (ct_X12_told l2 (xs (l3 + 1 : Int32).toNatClampNeg) M441 _ h) ty_X12_told tw1824 ht442 rfl (Nat.le_of_ble_eq_true rfl) ⟨rfl, rfl, ⟨by decide, by decide⟩, by show _ ≤ 600000; omega, by show _ ≤ 7302250; omega⟩ dL_law_1826 (fun r443 M444 h => ?_)
  show mj_X g 1829 [(0, vR ((b + 1))), (1, vR l1), (2, vR l2), (3, vI l3)] [vI r443, vI r440] M444 k n
  refine mx_icmpeq (tgt := 1834) hC dL_law_1829 (by decide) (fun hc445 => ?_) (fun hc445 => ?_)
  · replace h := mj_yy hc445 h
    refine mx_sub (L' := [(0, vR (b + 1)), (1, vR l1), (2, vR l2), (3, vI l3)]) [0, 1, 2, 3] rfl ?_
    exact show mj_X g 1834 [(0, vR (b + 1)), (1, vR l1), (2, vR l2), (3, vI l3)] [] M444 k n from (xb_L_law_1834 (f := f) hC hE hSC hk18 l1 l2 l3 M444 _ _ (by omega) (by omega) h)
  · replace h := mj_nn hc445 h
    refine mx_iconst (v := 0) hC dL_law_1832 (by decide) ?_
    exact h.elim
set_option maxHeartbeats 4000000 in
set_option maxRecDepth 100000 in
theorem xb_L_law_18 {b Ln : Nat} {xs : Nat → Int32} {g : mj_G} {nm : String} (hC : mj_C g ⟨R_law, nm, ""⟩ code 4 ret room_1) (hE : mj_EL g) (hSC : mj_SC g b Ln xs) : ∀ (f : Nat) (l1 : Nat) (l2 : Nat) (l3 : Int32) (M : mj_M) (k n : Nat), k + 2 * f ≤ 600000 → n + 52 * f ≤ 7302250 → vb_L_law_18 xs Ln f l1 l2 l3 M → mj_X g 18 [(0, vR (b + 1)), (1, vR l1), (2, vR l2), (3, vI l3)] [] M k n := by
  intro f
  induction f with
  | zero => exact fun _ _ _ _ _ _ _ _ h => absurd h (fun z => z)
  | succ f ih =>
    intro l1 l2 l3 M k n hk hn h
    simp only [vb_L_law_18] at h
    refine mx_iload_n (j := 3) hC dL_law_18 rfl rfl ?_
    refine mx_aload_n (j := 0) hC dL_law_19 rfl rfl ?_
    refine mx_slen hC hSC dL_law_20 ?_
    refine mx_bipush (v := 6) hC dL_law_21 (by decide) ?_
    refine mx_isub hC dL_law_23 ?_
    refine mx_icmpgt (tgt := 1840) hC dL_law_24 (by decide) (fun hc446 => ?_) (fun hc446 => ?_)
    · replace h := mj_yy hc446 h
      refine mx_iconst (v := 1) hC dL_law_1840 (by decide) ?_
      exact mx_lwret hC hE dL_law_1841 (by omega) (by omega)
    · replace h := mj_nn hc446 h
      refine mx_aload_n (j := 0) hC dL_law_27 rfl rfl ?_
      refine mx_iload_n (j := 3) hC dL_law_28 rfl rfl ?_
      obtain ⟨hi447, h⟩ := h
      refine mx_sld hC hSC hi447 dL_law_29 ?_
      refine mx_bipush (v := 63) hC dL_law_30 (by decide) ?_
      refine mx_iand hC dL_law_32 ?_
      by_cases hc448 : ((xs (l3 : Int32).toNatClampNeg) &&& 63) = 0
      · replace h := mj_yy hc448 h
        refine mx_tsin (v := 0) (off := 211) (tgt := 244) hC dL_law_33 hc448 (by decide) (by decide) (by decide) (by decide) ?_
        refine mx_sub (L' := [(0, vR (b + 1)), (1, vR l1), (2, vR l2), (3, vI l3)]) [0, 1, 2, 3] rfl ?_
        exact show mj_X g 244 [(0, vR (b + 1)), (1, vR l1), (2, vR l2), (3, vI l3)] [] M k n from (xb_L_law_244 (f := f) hC hE hSC ih l1 l2 l3 M _ _ (by omega) (by omega) h)
      replace h := mj_nn hc448 h
      by_cases hc449 : ((xs (l3 : Int32).toNatClampNeg) &&& 63) = 1
      · replace h := mj_yy hc449 h
        refine mx_tsin (v := 1) (off := 234) (tgt := 267) hC dL_law_33 hc449 (by decide) (by decide) (by decide) (by decide) ?_
        refine mx_sub (L' := [(0, vR (b + 1)), (1, vR l1), (2, vR l2), (3, vI l3)]) [0, 1, 2, 3] rfl ?_
        exact show mj_X g 267 [(0, vR (b + 1)), (1, vR l1), (2, vR l2), (3, vI l3)] [] M k n from (xb_L_law_267 (f := f) hC hE hSC ih l1 l2 l3 M _ _ (by omega) (by omega) h)
      replace h := mj_nn hc449 h
      by_cases hc450 : ((xs (l3 : Int32).toNatClampNeg) &&& 63) = 2
      · replace h := mj_yy hc450 h
        refine mx_tsin (v := 2) (off := 267) (tgt := 300) hC dL_law_33 hc450 (by decide) (by decide) (by decide) (by decide) ?_
        refine mx_sub (L' := [(0, vR (b + 1)), (1, vR l1), (2, vR l2), (3, vI l3)]) [0, 1, 2, 3] rfl ?_
        exact show mj_X g 300 [(0, vR (b + 1)), (1, vR l1), (2, vR l2), (3, vI l3)] [] M k n from (xb_L_law_300 (f := f) hC hE hSC ih l1 l2 l3 M _ _ (by omega) (by omega) h)
      replace h := mj_nn hc450 h
      by_cases hc451 : ((xs (l3 : Int32).toNatClampNeg) &&& 63) = 3
      · replace h := mj_yy hc451 h
        refine mx_tsin (v := 3) (off := 330) (tgt := 363) hC dL_law_33 hc451 (by decide) (by decide) (by decide) (by decide) ?_
        refine mx_sub (L' := [(0, vR (b + 1)), (1, vR l1), (2, vR l2), (3, vI l3)]) [0, 1, 2, 3] rfl ?_
        exact show mj_X g 363 [(0, vR (b + 1)), (1, vR l1), (2, vR l2), (3, vI l3)] [] M k n from (xb_L_law_363 (f := f) hC hE hSC ih l1 l2 l3 M _ _ (by omega) (by omega) h)
      replace h := mj_nn hc451 h
      by_cases hc452 : ((xs (l3 : Int32).toNatClampNeg) &&& 63) = 4
      · replace h := mj_yy hc452 h
        refine mx_tsin (v := 4) (off := 393) (tgt := 426) hC dL_law_33 hc452 (by decide) (by decide) (by decide) (by decide) ?_
        refine mx_sub (L' := [(0, vR (b + 1)), (1, vR l1), (2, vR l2), (3, vI l3)]) [0, 1, 2, 3] rfl ?_
        exact show mj_X g 426 [(0, vR (b + 1)), (1, vR l1), (2, vR l2), (3, vI l3)] [] M k n from (xb_L_law_426 (f := f) hC hE hSC ih l1 l2 l3 M _ _ (by omega) (by omega) h)
      replace h := mj_nn hc452 h
      by_cases hc453 : ((xs (l3 : Int32).toNatClampNeg) &&& 63) = 5
      · replace h := mj_yy hc453 h
        refine mx_tsin (v := 5) (off := 426) (tgt := 459) hC dL_law_33 hc453 (by decide) (by decide) (by decide) (by decide) ?_
        refine mx_sub (L' := [(0, vR (b + 1)), (1, vR l1), (2, vR l2), (3, vI l3)]) [0, 1, 2, 3] rfl ?_
        exact show mj_X g 459 [(0, vR (b + 1)), (1, vR l1), (2, vR l2), (3, vI l3)] [] M k n from (xb_L_law_459 (f := f) hC hE hSC ih l1 l2 l3 M _ _ (by omega) (by omega) h)
      replace h := mj_nn hc453 h
      by_cases hc454 : ((xs (l3 : Int32).toNatClampNeg) &&& 63) = 6
      · replace h := mj_yy hc454 h
        refine mx_tsin (v := 6) (off := 469) (tgt := 502) hC dL_law_33 hc454 (by decide) (by decide) (by decide) (by decide) ?_
        refine mx_sub (L' := [(0, vR (b + 1)), (1, vR l1), (2, vR l2), (3, vI l3)]) [0, 1, 2, 3] rfl ?_
        exact show mj_X g 502 [(0, vR (b + 1)), (1, vR l1), (2, vR l2), (3, vI l3)] [] M k n from (xb_L_law_502 (f := f) hC hE hSC ih l1 l2 l3 M _ _ (by omega) (by omega) h)
      replace h := mj_nn hc454 h
      by_cases hc455 : ((xs (l3 : Int32).toNatClampNeg) &&& 63) = 7
      · replace h := mj_yy hc455 h
        refine mx_tsin (v := 7) (off := 502) (tgt := 535) hC dL_law_33 hc455 (by decide) (by decide) (by decide) (by decide) ?_
        refine mx_sub (L' := [(0, vR (b + 1)), (1, vR l1), (2, vR l2), (3, vI l3)]) [0, 1, 2, 3] rfl ?_
        exact show mj_X g 535 [(0, vR (b + 1)), (1, vR l1), (2, vR l2), (3, vI l3)] [] M k n from (xb_L_law_535 (f := f) hC hE hSC ih l1 l2 l3 M _ _ (by omega) (by omega) h)
      replace h := mj_nn hc455 h
      by_cases hc456 : ((xs (l3 : Int32).toNatClampNeg) &&& 63) = 8
      · replace h := mj_yy hc456 h
        refine mx_tsin (v := 8) (off := 535) (tgt := 568) hC dL_law_33 hc456 (by decide) (by decide) (by decide) (by decide) ?_
        refine mx_sub (L' := [(0, vR (b + 1)), (1, vR l1), (2, vR l2), (3, vI l3)]) [0, 1, 2, 3] rfl ?_
        exact show mj_X g 568 [(0, vR (b + 1)), (1, vR l1), (2, vR l2), (3, vI l3)] [] M k n from (xb_L_law_568 (f := f) hC hE hSC ih l1 l2 l3 M _ _ (by omega) (by omega) h)
      replace h := mj_nn hc456 h
      by_cases hc457 : ((xs (l3 : Int32).toNatClampNeg) &&& 63) = 9
      · replace h := mj_yy hc457 h
        refine mx_tsin (v := 9) (off := 568) (tgt := 601) hC dL_law_33 hc457 (by decide) (by decide) (by decide) (by decide) ?_
        refine mx_sub (L' := [(0, vR (b + 1)), (1, vR l1), (2, vR l2), (3, vI l3)]) [0, 1, 2, 3] rfl ?_
        exact show mj_X g 601 [(0, vR (b + 1)), (1, vR l1), (2, vR l2), (3, vI l3)] [] M k n from (xb_L_law_601 (f := f) hC hE hSC ih l1 l2 l3 M _ _ (by omega) (by omega) h)
      replace h := mj_nn hc457 h
      by_cases hc458 : ((xs (l3 : Int32).toNatClampNeg) &&& 63) = 10
      · replace h := mj_yy hc458 h
        refine mx_tsin (v := 10) (off := 601) (tgt := 634) hC dL_law_33 hc458 (by decide) (by decide) (by decide) (by decide) ?_
        refine mx_sub (L' := [(0, vR (b + 1)), (1, vR l1), (2, vR l2), (3, vI l3)]) [0, 1, 2, 3] rfl ?_
        exact show mj_X g 634 [(0, vR (b + 1)), (1, vR l1), (2, vR l2), (3, vI l3)] [] M k n from (xb_L_law_634 (f := f) hC hE hSC ih l1 l2 l3 M _ _ (by omega) (by omega) h)
      replace h := mj_nn hc458 h
      by_cases hc459 : ((xs (l3 : Int32).toNatClampNeg) &&& 63) = 11
      · replace h := mj_yy hc459 h
        refine mx_tsin (v := 11) (off := 644) (tgt := 677) hC dL_law_33 hc459 (by decide) (by decide) (by decide) (by decide) ?_
        refine mx_sub (L' := [(0, vR (b + 1)), (1, vR l1), (2, vR l2), (3, vI l3)]) [0, 1, 2, 3] rfl ?_
        exact show mj_X g 677 [(0, vR (b + 1)), (1, vR l1), (2, vR l2), (3, vI l3)] [] M k n from (xb_L_law_677 (f := f) hC hE hSC ih l1 l2 l3 M _ _ (by omega) (by omega) h)
      replace h := mj_nn hc459 h
      by_cases hc460 : ((xs (l3 : Int32).toNatClampNeg) &&& 63) = 12
      · replace h := mj_yy hc460 h
        refine mx_tsin (v := 12) (off := 677) (tgt := 710) hC dL_law_33 hc460 (by decide) (by decide) (by decide) (by decide) ?_
        refine mx_sub (L' := [(0, vR (b + 1)), (1, vR l1), (2, vR l2), (3, vI l3)]) [0, 1, 2, 3] rfl ?_
        exact show mj_X g 710 [(0, vR (b + 1)), (1, vR l1), (2, vR l2), (3, vI l3)] [] M k n from (xb_L_law_710 (f := f) hC hE hSC ih l1 l2 l3 M _ _ (by omega) (by omega) h)
      replace h := mj_nn hc460 h
      by_cases hc461 : ((xs (l3 : Int32).toNatClampNeg) &&& 63) = 13
      · replace h := mj_yy hc461 h
        refine mx_tsin (v := 13) (off := 721) (tgt := 754) hC dL_law_33 hc461 (by decide) (by decide) (by decide) (by decide) ?_
        refine mx_sub (L' := [(0, vR (b + 1)), (1, vR l1), (2, vR l2), (3, vI l3)]) [0, 1, 2, 3] rfl ?_
        exact show mj_X g 754 [(0, vR (b + 1)), (1, vR l1), (2, vR l2), (3, vI l3)] [] M k n from (xb_L_law_754 (f := f) hC hE hSC ih l1 l2 l3 M _ _ (by omega) (by omega) h)
      replace h := mj_nn hc461 h
      by_cases hc462 : ((xs (l3 : Int32).toNatClampNeg) &&& 63) = 14
      · replace h := mj_yy hc462 h
        refine mx_tsin (v := 14) (off := 754) (tgt := 787) hC dL_law_33 hc462 (by decide) (by decide) (by decide) (by decide) ?_
        refine mx_sub (L' := [(0, vR (b + 1)), (1, vR l1), (2, vR l2), (3, vI l3)]) [0, 1, 2, 3] rfl ?_
        exact show mj_X g 787 [(0, vR (b + 1)), (1, vR l1), (2, vR l2), (3, vI l3)] [] M k n from (xb_L_law_787 (f := f) hC hE hSC ih l1 l2 l3 M _ _ (by omega) (by omega) h)
      replace h := mj_nn hc462 h
      by_cases hc463 : ((xs (l3 : Int32).toNatClampNeg) &&& 63) = 15
      · replace h := mj_yy hc463 h
        refine mx_tsin (v := 15) (off := 777) (tgt := 810) hC dL_law_33 hc463 (by decide) (by decide) (by decide) (by decide) ?_
        refine mx_sub (L' := [(0, vR (b + 1)), (1, vR l1), (2, vR l2), (3, vI l3)]) [0, 1, 2, 3] rfl ?_
        exact show mj_X g 810 [(0, vR (b + 1)), (1, vR l1), (2, vR l2), (3, vI l3)] [] M k n from (xb_L_law_810 (f := f) hC hE hSC ih l1 l2 l3 M _ _ (by omega) (by omega) h)
      replace h := mj_nn hc463 h
      by_cases hc464 : ((xs (l3 : Int32).toNatClampNeg) &&& 63) = 16
      · replace h := mj_yy hc464 h
        refine mx_tsin (v := 16) (off := 790) (tgt := 823) hC dL_law_33 hc464 (by decide) (by decide) (by decide) (by decide) ?_
        refine mx_sub (L' := [(0, vR (b + 1)), (1, vR l1), (2, vR l2), (3, vI l3)]) [0, 1, 2, 3] rfl ?_
        exact show mj_X g 823 [(0, vR (b + 1)), (1, vR l1), (2, vR l2), (3, vI l3)] [] M k n from (xb_L_law_823 (f := f) hC hE hSC ih l1 l2 l3 M _ _ (by omega) (by omega) h)
      replace h := mj_nn hc464 h
      by_cases hc465 : ((xs (l3 : Int32).toNatClampNeg) &&& 63) = 17
      · replace h := mj_yy hc465 h
        refine mx_tsin (v := 17) (off := 803) (tgt := 836) hC dL_law_33 hc465 (by decide) (by decide) (by decide) (by decide) ?_
        refine mx_sub (L' := [(0, vR (b + 1)), (1, vR l1), (2, vR l2), (3, vI l3)]) [0, 1, 2, 3] rfl ?_
        exact show mj_X g 836 [(0, vR (b + 1)), (1, vR l1), (2, vR l2), (3, vI l3)] [] M k n from (xb_L_law_836 (f := f) hC hE hSC ih l1 l2 l3 M _ _ (by omega) (by omega) h)
      replace h := mj_nn hc465 h
      by_cases hc466 : ((xs (l3 : Int32).toNatClampNeg) &&& 63) = 18
      · replace h := mj_yy hc466 h
        refine mx_tsin (v := 18) (off := 836) (tgt := 869) hC dL_law_33 hc466 (by decide) (by decide) (by decide) (by decide) ?_
        refine mx_sub (L' := [(0, vR (b + 1)), (1, vR l1), (2, vR l2), (3, vI l3)]) [0, 1, 2, 3] rfl ?_
        exact show mj_X g 869 [(0, vR (b + 1)), (1, vR l1), (2, vR l2), (3, vI l3)] [] M k n from (xb_L_law_869 (f := f) hC hE hSC ih l1 l2 l3 M _ _ (by omega) (by omega) h)
      replace h := mj_nn hc466 h
      by_cases hc467 : ((xs (l3 : Int32).toNatClampNeg) &&& 63) = 19
      · replace h := mj_yy hc467 h
        refine mx_tsin (v := 19) (off := 869) (tgt := 902) hC dL_law_33 hc467 (by decide) (by decide) (by decide) (by decide) ?_
        refine mx_sub (L' := [(0, vR (b + 1)), (1, vR l1), (2, vR l2), (3, vI l3)]) [0, 1, 2, 3] rfl ?_
        exact show mj_X g 902 [(0, vR (b + 1)), (1, vR l1), (2, vR l2), (3, vI l3)] [] M k n from (xb_L_law_902 (f := f) hC hE hSC ih l1 l2 l3 M _ _ (by omega) (by omega) h)
      replace h := mj_nn hc467 h
      by_cases hc468 : ((xs (l3 : Int32).toNatClampNeg) &&& 63) = 20
      · replace h := mj_yy hc468 h
        refine mx_tsin (v := 20) (off := 902) (tgt := 935) hC dL_law_33 hc468 (by decide) (by decide) (by decide) (by decide) ?_
        refine mx_sub (L' := [(0, vR (b + 1)), (1, vR l1), (2, vR l2), (3, vI l3)]) [0, 1, 2, 3] rfl ?_
        exact show mj_X g 935 [(0, vR (b + 1)), (1, vR l1), (2, vR l2), (3, vI l3)] [] M k n from (xb_L_law_935 (f := f) hC hE hSC ih l1 l2 l3 M _ _ (by omega) (by omega) h)
      replace h := mj_nn hc468 h
      by_cases hc469 : ((xs (l3 : Int32).toNatClampNeg) &&& 63) = 21
      · replace h := mj_yy hc469 h
        refine mx_tsin (v := 21) (off := 935) (tgt := 968) hC dL_law_33 hc469 (by decide) (by decide) (by decide) (by decide) ?_
        refine mx_sub (L' := [(0, vR (b + 1)), (1, vR l1), (2, vR l2), (3, vI l3)]) [0, 1, 2, 3] rfl ?_
        exact show mj_X g 968 [(0, vR (b + 1)), (1, vR l1), (2, vR l2), (3, vI l3)] [] M k n from (xb_L_law_968 (f := f) hC hE hSC ih l1 l2 l3 M _ _ (by omega) (by omega) h)
      replace h := mj_nn hc469 h
      by_cases hc470 : ((xs (l3 : Int32).toNatClampNeg) &&& 63) = 22
      · replace h := mj_yy hc470 h
        refine mx_tsin (v := 22) (off := 968) (tgt := 1001) hC dL_law_33 hc470 (by decide) (by decide) (by decide) (by decide) ?_
        refine mx_sub (L' := [(0, vR (b + 1)), (1, vR l1), (2, vR l2), (3, vI l3)]) [0, 1, 2, 3] rfl ?_
        exact show mj_X g 1001 [(0, vR (b + 1)), (1, vR l1), (2, vR l2), (3, vI l3)] [] M k n from (xb_L_law_1001 (f := f) hC hE hSC ih l1 l2 l3 M _ _ (by omega) (by omega) h)
      replace h := mj_nn hc470 h
      by_cases hc471 : ((xs (l3 : Int32).toNatClampNeg) &&& 63) = 23
      · replace h := mj_yy hc471 h
        refine mx_tsin (v := 23) (off := 1001) (tgt := 1034) hC dL_law_33 hc471 (by decide) (by decide) (by decide) (by decide) ?_
        refine mx_sub (L' := [(0, vR (b + 1)), (1, vR l1), (2, vR l2), (3, vI l3)]) [0, 1, 2, 3] rfl ?_
        exact show mj_X g 1034 [(0, vR (b + 1)), (1, vR l1), (2, vR l2), (3, vI l3)] [] M k n from (xb_L_law_1034 (f := f) hC hE hSC ih l1 l2 l3 M _ _ (by omega) (by omega) h)
      replace h := mj_nn hc471 h
      by_cases hc472 : ((xs (l3 : Int32).toNatClampNeg) &&& 63) = 24
      · replace h := mj_yy hc472 h
        refine mx_tsin (v := 24) (off := 1050) (tgt := 1083) hC dL_law_33 hc472 (by decide) (by decide) (by decide) (by decide) ?_
        refine mx_sub (L' := [(0, vR (b + 1)), (1, vR l1), (2, vR l2), (3, vI l3)]) [0, 1, 2, 3] rfl ?_
        exact show mj_X g 1083 [(0, vR (b + 1)), (1, vR l1), (2, vR l2), (3, vI l3)] [] M k n from (xb_L_law_1083 (f := f) hC hE hSC ih l1 l2 l3 M _ _ (by omega) (by omega) h)
      replace h := mj_nn hc472 h
      by_cases hc473 : ((xs (l3 : Int32).toNatClampNeg) &&& 63) = 25
      · replace h := mj_yy hc473 h
        refine mx_tsin (v := 25) (off := 1073) (tgt := 1106) hC dL_law_33 hc473 (by decide) (by decide) (by decide) (by decide) ?_
        refine mx_sub (L' := [(0, vR (b + 1)), (1, vR l1), (2, vR l2), (3, vI l3)]) [0, 1, 2, 3] rfl ?_
        exact show mj_X g 1106 [(0, vR (b + 1)), (1, vR l1), (2, vR l2), (3, vI l3)] [] M k n from (xb_L_law_1106 (f := f) hC hE hSC ih l1 l2 l3 M _ _ (by omega) (by omega) h)
      replace h := mj_nn hc473 h
      by_cases hc474 : ((xs (l3 : Int32).toNatClampNeg) &&& 63) = 26
      · replace h := mj_yy hc474 h
        refine mx_tsin (v := 26) (off := 1122) (tgt := 1155) hC dL_law_33 hc474 (by decide) (by decide) (by decide) (by decide) ?_
        refine mx_sub (L' := [(0, vR (b + 1)), (1, vR l1), (2, vR l2), (3, vI l3)]) [0, 1, 2, 3] rfl ?_
        exact show mj_X g 1155 [(0, vR (b + 1)), (1, vR l1), (2, vR l2), (3, vI l3)] [] M k n from (xb_L_law_1155 (f := f) hC hE hSC ih l1 l2 l3 M _ _ (by omega) (by omega) h)
      replace h := mj_nn hc474 h
      by_cases hc475 : ((xs (l3 : Int32).toNatClampNeg) &&& 63) = 27
      · replace h := mj_yy hc475 h
        refine mx_tsin (v := 27) (off := 1145) (tgt := 1178) hC dL_law_33 hc475 (by decide) (by decide) (by decide) (by decide) ?_
        refine mx_sub (L' := [(0, vR (b + 1)), (1, vR l1), (2, vR l2), (3, vI l3)]) [0, 1, 2, 3] rfl ?_
        exact show mj_X g 1178 [(0, vR (b + 1)), (1, vR l1), (2, vR l2), (3, vI l3)] [] M k n from (xb_L_law_1178 (f := f) hC hE hSC ih l1 l2 l3 M _ _ (by omega) (by omega) h)
      replace h := mj_nn hc475 h
      by_cases hc476 : ((xs (l3 : Int32).toNatClampNeg) &&& 63) = 28
      · replace h := mj_yy hc476 h
        refine mx_tsin (v := 28) (off := 1168) (tgt := 1201) hC dL_law_33 hc476 (by decide) (by decide) (by decide) (by decide) ?_
        refine mx_sub (L' := [(0, vR (b + 1)), (1, vR l1), (2, vR l2), (3, vI l3)]) [0, 1, 2, 3] rfl ?_
        exact show mj_X g 1201 [(0, vR (b + 1)), (1, vR l1), (2, vR l2), (3, vI l3)] [] M k n from (xb_L_law_1201 (f := f) hC hE hSC ih l1 l2 l3 M _ _ (by omega) (by omega) h)
      replace h := mj_nn hc476 h
      by_cases hc477 : ((xs (l3 : Int32).toNatClampNeg) &&& 63) = 29
      · replace h := mj_yy hc477 h
        refine mx_tsin (v := 29) (off := 1191) (tgt := 1224) hC dL_law_33 hc477 (by decide) (by decide) (by decide) (by decide) ?_
        refine mx_sub (L' := [(0, vR (b + 1)), (1, vR l1), (2, vR l2), (3, vI l3)]) [0, 1, 2, 3] rfl ?_
        exact show mj_X g 1224 [(0, vR (b + 1)), (1, vR l1), (2, vR l2), (3, vI l3)] [] M k n from (xb_L_law_1224 (f := f) hC hE hSC ih l1 l2 l3 M _ _ (by omega) (by omega) h)
      replace h := mj_nn hc477 h
      by_cases hc478 : ((xs (l3 : Int32).toNatClampNeg) &&& 63) = 30
      · replace h := mj_yy hc478 h
        refine mx_tsin (v := 30) (off := 1224) (tgt := 1257) hC dL_law_33 hc478 (by decide) (by decide) (by decide) (by decide) ?_
        refine mx_sub (L' := [(0, vR (b + 1)), (1, vR l1), (2, vR l2), (3, vI l3)]) [0, 1, 2, 3] rfl ?_
        exact show mj_X g 1257 [(0, vR (b + 1)), (1, vR l1), (2, vR l2), (3, vI l3)] [] M k n from (xb_L_law_1257 (f := f) hC hE hSC ih l1 l2 l3 M _ _ (by omega) (by omega) h)
      replace h := mj_nn hc478 h
      by_cases hc479 : ((xs (l3 : Int32).toNatClampNeg) &&& 63) = 31
      · replace h := mj_yy hc479 h
        refine mx_tsin (v := 31) (off := 1257) (tgt := 1290) hC dL_law_33 hc479 (by decide) (by decide) (by decide) (by decide) ?_
        refine mx_sub (L' := [(0, vR (b + 1)), (1, vR l1), (2, vR l2), (3, vI l3)]) [0, 1, 2, 3] rfl ?_
        exact show mj_X g 1290 [(0, vR (b + 1)), (1, vR l1), (2, vR l2), (3, vI l3)] [] M k n from (xb_L_law_1290 (f := f) hC hE hSC ih l1 l2 l3 M _ _ (by omega) (by omega) h)
      replace h := mj_nn hc479 h
      by_cases hc480 : ((xs (l3 : Int32).toNatClampNeg) &&& 63) = 32
      · replace h := mj_yy hc480 h
        refine mx_tsin (v := 32) (off := 1270) (tgt := 1303) hC dL_law_33 hc480 (by decide) (by decide) (by decide) (by decide) ?_
        refine mx_sub (L' := [(0, vR (b + 1)), (1, vR l1), (2, vR l2), (3, vI l3)]) [0, 1, 2, 3] rfl ?_
        exact show mj_X g 1303 [(0, vR (b + 1)), (1, vR l1), (2, vR l2), (3, vI l3)] [] M k n from (xb_L_law_1303 (f := f) hC hE hSC ih l1 l2 l3 M _ _ (by omega) (by omega) h)
      replace h := mj_nn hc480 h
      by_cases hc481 : ((xs (l3 : Int32).toNatClampNeg) &&& 63) = 33
      · replace h := mj_yy hc481 h
        refine mx_tsin (v := 33) (off := 1293) (tgt := 1326) hC dL_law_33 hc481 (by decide) (by decide) (by decide) (by decide) ?_
        refine mx_sub (L' := [(0, vR (b + 1)), (1, vR l1), (2, vR l2), (3, vI l3)]) [0, 1, 2, 3] rfl ?_
        exact show mj_X g 1326 [(0, vR (b + 1)), (1, vR l1), (2, vR l2), (3, vI l3)] [] M k n from (xb_L_law_1326 (f := f) hC hE hSC ih l1 l2 l3 M _ _ (by omega) (by omega) h)
      replace h := mj_nn hc481 h
      by_cases hc482 : ((xs (l3 : Int32).toNatClampNeg) &&& 63) = 34
      · replace h := mj_yy hc482 h
        refine mx_tsin (v := 34) (off := 1316) (tgt := 1349) hC dL_law_33 hc482 (by decide) (by decide) (by decide) (by decide) ?_
        refine mx_sub (L' := [(0, vR (b + 1)), (1, vR l1), (2, vR l2), (3, vI l3)]) [0, 1, 2, 3] rfl ?_
        exact show mj_X g 1349 [(0, vR (b + 1)), (1, vR l1), (2, vR l2), (3, vI l3)] [] M k n from (xb_L_law_1349 (f := f) hC hE hSC ih l1 l2 l3 M _ _ (by omega) (by omega) h)
      replace h := mj_nn hc482 h
      by_cases hc483 : ((xs (l3 : Int32).toNatClampNeg) &&& 63) = 35
      · replace h := mj_yy hc483 h
        refine mx_tsin (v := 35) (off := 1349) (tgt := 1382) hC dL_law_33 hc483 (by decide) (by decide) (by decide) (by decide) ?_
        refine mx_sub (L' := [(0, vR (b + 1)), (1, vR l1), (2, vR l2), (3, vI l3)]) [0, 1, 2, 3] rfl ?_
        exact show mj_X g 1382 [(0, vR (b + 1)), (1, vR l1), (2, vR l2), (3, vI l3)] [] M k n from (xb_L_law_1382 (f := f) hC hE hSC ih l1 l2 l3 M _ _ (by omega) (by omega) h)
      replace h := mj_nn hc483 h
      by_cases hc484 : ((xs (l3 : Int32).toNatClampNeg) &&& 63) = 36
      · replace h := mj_yy hc484 h
        refine mx_tsin (v := 36) (off := 1393) (tgt := 1426) hC dL_law_33 hc484 (by decide) (by decide) (by decide) (by decide) ?_
        refine mx_sub (L' := [(0, vR (b + 1)), (1, vR l1), (2, vR l2), (3, vI l3)]) [0, 1, 2, 3] rfl ?_
        exact show mj_X g 1426 [(0, vR (b + 1)), (1, vR l1), (2, vR l2), (3, vI l3)] [] M k n from (xb_L_law_1426 (f := f) hC hE hSC ih l1 l2 l3 M _ _ (by omega) (by omega) h)
      replace h := mj_nn hc484 h
      by_cases hc485 : ((xs (l3 : Int32).toNatClampNeg) &&& 63) = 37
      · replace h := mj_yy hc485 h
        refine mx_tsin (v := 37) (off := 1417) (tgt := 1450) hC dL_law_33 hc485 (by decide) (by decide) (by decide) (by decide) ?_
        refine mx_sub (L' := [(0, vR (b + 1)), (1, vR l1), (2, vR l2), (3, vI l3)]) [0, 1, 2, 3] rfl ?_
        exact show mj_X g 1450 [(0, vR (b + 1)), (1, vR l1), (2, vR l2), (3, vI l3)] [] M k n from (xb_L_law_1450 (f := f) hC hE hSC ih l1 l2 l3 M _ _ (by omega) (by omega) h)
      replace h := mj_nn hc485 h
      by_cases hc486 : ((xs (l3 : Int32).toNatClampNeg) &&& 63) = 38
      · replace h := mj_yy hc486 h
        refine mx_tsin (v := 38) (off := 1450) (tgt := 1483) hC dL_law_33 hc486 (by decide) (by decide) (by decide) (by decide) ?_
        refine mx_sub (L' := [(0, vR (b + 1)), (1, vR l1), (2, vR l2), (3, vI l3)]) [0, 1, 2, 3] rfl ?_
        exact show mj_X g 1483 [(0, vR (b + 1)), (1, vR l1), (2, vR l2), (3, vI l3)] [] M k n from (xb_L_law_1483 (f := f) hC hE hSC ih l1 l2 l3 M _ _ (by omega) (by omega) h)
      replace h := mj_nn hc486 h
      by_cases hc487 : ((xs (l3 : Int32).toNatClampNeg) &&& 63) = 39
      · replace h := mj_yy hc487 h
        refine mx_tsin (v := 39) (off := 1484) (tgt := 1517) hC dL_law_33 hc487 (by decide) (by decide) (by decide) (by decide) ?_
        refine mx_sub (L' := [(0, vR (b + 1)), (1, vR l1), (2, vR l2), (3, vI l3)]) [0, 1, 2, 3] rfl ?_
        exact show mj_X g 1517 [(0, vR (b + 1)), (1, vR l1), (2, vR l2), (3, vI l3)] [] M k n from (xb_L_law_1517 (f := f) hC hE hSC ih l1 l2 l3 M _ _ (by omega) (by omega) h)
      replace h := mj_nn hc487 h
      by_cases hc488 : ((xs (l3 : Int32).toNatClampNeg) &&& 63) = 40
      · replace h := mj_yy hc488 h
        refine mx_tsin (v := 40) (off := 1518) (tgt := 1551) hC dL_law_33 hc488 (by decide) (by decide) (by decide) (by decide) ?_
        refine mx_sub (L' := [(0, vR (b + 1)), (1, vR l1), (2, vR l2), (3, vI l3)]) [0, 1, 2, 3] rfl ?_
        exact show mj_X g 1551 [(0, vR (b + 1)), (1, vR l1), (2, vR l2), (3, vI l3)] [] M k n from (xb_L_law_1551 (f := f) hC hE hSC ih l1 l2 l3 M _ _ (by omega) (by omega) h)
      replace h := mj_nn hc488 h
      by_cases hc489 : ((xs (l3 : Int32).toNatClampNeg) &&& 63) = 41
      · replace h := mj_yy hc489 h
        refine mx_tsin (v := 41) (off := 1551) (tgt := 1584) hC dL_law_33 hc489 (by decide) (by decide) (by decide) (by decide) ?_
        refine mx_sub (L' := [(0, vR (b + 1)), (1, vR l1), (2, vR l2), (3, vI l3)]) [0, 1, 2, 3] rfl ?_
        exact show mj_X g 1584 [(0, vR (b + 1)), (1, vR l1), (2, vR l2), (3, vI l3)] [] M k n from (xb_L_law_1584 (f := f) hC hE hSC ih l1 l2 l3 M _ _ (by omega) (by omega) h)
      replace h := mj_nn hc489 h
      by_cases hc490 : ((xs (l3 : Int32).toNatClampNeg) &&& 63) = 42
      · replace h := mj_yy hc490 h
        refine mx_tsin (v := 42) (off := 1584) (tgt := 1617) hC dL_law_33 hc490 (by decide) (by decide) (by decide) (by decide) ?_
        refine mx_sub (L' := [(0, vR (b + 1)), (1, vR l1), (2, vR l2), (3, vI l3)]) [0, 1, 2, 3] rfl ?_
        exact show mj_X g 1617 [(0, vR (b + 1)), (1, vR l1), (2, vR l2), (3, vI l3)] [] M k n from (xb_L_law_1617 (f := f) hC hE hSC ih l1 l2 l3 M _ _ (by omega) (by omega) h)
      replace h := mj_nn hc490 h
      by_cases hc491 : ((xs (l3 : Int32).toNatClampNeg) &&& 63) = 43
      · replace h := mj_yy hc491 h
        refine mx_tsin (v := 43) (off := 1633) (tgt := 1666) hC dL_law_33 hc491 (by decide) (by decide) (by decide) (by decide) ?_
        refine mx_sub (L' := [(0, vR (b + 1)), (1, vR l1), (2, vR l2), (3, vI l3)]) [0, 1, 2, 3] rfl ?_
        exact show mj_X g 1666 [(0, vR (b + 1)), (1, vR l1), (2, vR l2), (3, vI l3)] [] M k n from (xb_L_law_1666 (f := f) hC hE hSC ih l1 l2 l3 M _ _ (by omega) (by omega) h)
      replace h := mj_nn hc491 h
      by_cases hc492 : ((xs (l3 : Int32).toNatClampNeg) &&& 63) = 44
      · replace h := mj_yy hc492 h
        refine mx_tsin (v := 44) (off := 1656) (tgt := 1689) hC dL_law_33 hc492 (by decide) (by decide) (by decide) (by decide) ?_
        refine mx_sub (L' := [(0, vR (b + 1)), (1, vR l1), (2, vR l2), (3, vI l3)]) [0, 1, 2, 3] rfl ?_
        exact show mj_X g 1689 [(0, vR (b + 1)), (1, vR l1), (2, vR l2), (3, vI l3)] [] M k n from (xb_L_law_1689 (f := f) hC hE hSC ih l1 l2 l3 M _ _ (by omega) (by omega) h)
      replace h := mj_nn hc492 h
      by_cases hc493 : ((xs (l3 : Int32).toNatClampNeg) &&& 63) = 45
      · replace h := mj_yy hc493 h
        refine mx_tsin (v := 45) (off := 1679) (tgt := 1712) hC dL_law_33 hc493 (by decide) (by decide) (by decide) (by decide) ?_
        refine mx_sub (L' := [(0, vR (b + 1)), (1, vR l1), (2, vR l2), (3, vI l3)]) [0, 1, 2, 3] rfl ?_
        exact show mj_X g 1712 [(0, vR (b + 1)), (1, vR l1), (2, vR l2), (3, vI l3)] [] M k n from (xb_L_law_1712 (f := f) hC hE hSC ih l1 l2 l3 M _ _ (by omega) (by omega) h)
      replace h := mj_nn hc493 h
      by_cases hc494 : ((xs (l3 : Int32).toNatClampNeg) &&& 63) = 46
      · replace h := mj_yy hc494 h
        refine mx_tsin (v := 46) (off := 1732) (tgt := 1765) hC dL_law_33 hc494 (by decide) (by decide) (by decide) (by decide) ?_
        refine mx_sub (L' := [(0, vR (b + 1)), (1, vR l1), (2, vR l2), (3, vI l3)]) [0, 1, 2, 3] rfl ?_
        exact show mj_X g 1765 [(0, vR (b + 1)), (1, vR l1), (2, vR l2), (3, vI l3)] [] M k n from (xb_L_law_1765 (f := f) hC hE hSC ih l1 l2 l3 M _ _ (by omega) (by omega) h)
      replace h := mj_nn hc494 h
      by_cases hc495 : ((xs (l3 : Int32).toNatClampNeg) &&& 63) = 47
      · replace h := mj_yy hc495 h
        refine mx_tsin (v := 47) (off := 1755) (tgt := 1788) hC dL_law_33 hc495 (by decide) (by decide) (by decide) (by decide) ?_
        refine mx_sub (L' := [(0, vR (b + 1)), (1, vR l1), (2, vR l2), (3, vI l3)]) [0, 1, 2, 3] rfl ?_
        exact show mj_X g 1788 [(0, vR (b + 1)), (1, vR l1), (2, vR l2), (3, vI l3)] [] M k n from (xb_L_law_1788 (f := f) hC hE hSC ih l1 l2 l3 M _ _ (by omega) (by omega) h)
      replace h := mj_nn hc495 h
      by_cases hc496 : ((xs (l3 : Int32).toNatClampNeg) &&& 63) = 48
      · replace h := mj_yy hc496 h
        refine mx_tsin (v := 48) (off := 1778) (tgt := 1811) hC dL_law_33 hc496 (by decide) (by decide) (by decide) (by decide) ?_
        refine mx_sub (L' := [(0, vR (b + 1)), (1, vR l1), (2, vR l2), (3, vI l3)]) [0, 1, 2, 3] rfl ?_
        exact show mj_X g 1811 [(0, vR (b + 1)), (1, vR l1), (2, vR l2), (3, vI l3)] [] M k n from (xb_L_law_1811 (f := f) hC hE hSC ih l1 l2 l3 M _ _ (by omega) (by omega) h)
      replace h := mj_nn hc496 h
      refine mx_tsout (vs := [0, 1, 2, 3, 4, 5, 6, 7, 8, 9, 10, 11, 12, 13, 14, 15, 16, 17, 18, 19, 20, 21, 22, 23, 24, 25, 26, 27, 28, 29, 30, 31, 32, 33, 34, 35, 36, 37, 38, 39, 40, 41, 42, 43, 44, 45, 46, 47, 48]) (tgt := 1834) hC dL_law_33 (by decide) (by decide) (List.forall_mem_cons.mpr ⟨hc448, (List.forall_mem_cons.mpr ⟨hc449, (List.forall_mem_cons.mpr ⟨hc450, (List.forall_mem_cons.mpr ⟨hc451, (List.forall_mem_cons.mpr ⟨hc452, (List.forall_mem_cons.mpr ⟨hc453, (List.forall_mem_cons.mpr ⟨hc454, (List.forall_mem_cons.mpr ⟨hc455, (List.forall_mem_cons.mpr ⟨hc456, (List.forall_mem_cons.mpr ⟨hc457, (List.forall_mem_cons.mpr ⟨hc458, (List.forall_mem_cons.mpr ⟨hc459, (List.forall_mem_cons.mpr ⟨hc460, (List.forall_mem_cons.mpr ⟨hc461, (List.forall_mem_cons.mpr ⟨hc462, (List.forall_mem_cons.mpr ⟨hc463, (List.forall_mem_cons.mpr ⟨hc464, (List.forall_mem_cons.mpr ⟨hc465, (List.forall_mem_cons.mpr ⟨hc466, (List.forall_mem_cons.mpr ⟨hc467, (List.forall_mem_cons.mpr ⟨hc468, (List.forall_mem_cons.mpr ⟨hc469, (List.forall_mem_cons.mpr ⟨hc470, (List.forall_mem_cons.mpr ⟨hc471, (List.forall_mem_cons.mpr ⟨hc472, (List.forall_mem_cons.mpr ⟨hc473, (List.forall_mem_cons.mpr ⟨hc474, (List.forall_mem_cons.mpr ⟨hc475, (List.forall_mem_cons.mpr ⟨hc476, (List.forall_mem_cons.mpr ⟨hc477, (List.forall_mem_cons.mpr ⟨hc478, (List.forall_mem_cons.mpr ⟨hc479, (List.forall_mem_cons.mpr ⟨hc480, (List.forall_mem_cons.mpr ⟨hc481, (List.forall_mem_cons.mpr ⟨hc482, (List.forall_mem_cons.mpr ⟨hc483, (List.forall_mem_cons.mpr ⟨hc484, (List.forall_mem_cons.mpr ⟨hc485, (List.forall_mem_cons.mpr ⟨hc486, (List.forall_mem_cons.mpr ⟨hc487, (List.forall_mem_cons.mpr ⟨hc488, (List.forall_mem_cons.mpr ⟨hc489, (List.forall_mem_cons.mpr ⟨hc490, (List.forall_mem_cons.mpr ⟨hc491, (List.forall_mem_cons.mpr ⟨hc492, (List.forall_mem_cons.mpr ⟨hc493, (List.forall_mem_cons.mpr ⟨hc494, (List.forall_mem_cons.mpr ⟨hc495, (List.forall_mem_cons.mpr ⟨hc496, (fun _ q => absurd q List.not_mem_nil)⟩)⟩)⟩)⟩)⟩)⟩)⟩)⟩)⟩)⟩)⟩)⟩)⟩)⟩)⟩)⟩)⟩)⟩)⟩)⟩)⟩)⟩)⟩)⟩)⟩)⟩)⟩)⟩)⟩)⟩)⟩)⟩)⟩)⟩)⟩)⟩)⟩)⟩)⟩)⟩)⟩)⟩)⟩)⟩)⟩)⟩)⟩)⟩)⟩) ?_
      refine mx_sub (L' := [(0, vR (b + 1)), (1, vR l1), (2, vR l2), (3, vI l3)]) [0, 1, 2, 3] rfl ?_
      exact show mj_X g 1834 [(0, vR (b + 1)), (1, vR l1), (2, vR l2), (3, vI l3)] [] M k n from (xb_L_law_1834 (f := f) hC hE hSC ih l1 l2 l3 M _ _ (by omega) (by omega) h)
set_option maxHeartbeats 4000000 in
set_option maxRecDepth 100000 in
theorem xb_L_law_0 {b Ln : Nat} {xs : Nat → Int32} {g : mj_G} {nm : String} (hC : mj_C g ⟨R_law, nm, ""⟩ code 4 ret room_1) (hE : mj_EL g) (hSC : mj_SC g b Ln xs) (M : mj_M) (h : vc_L_law xs Ln M) : mj_X g 0 [(0, vR (b + 1))] [] M 0 0 := by
  simp only [vc_L_law] at h
  refine mx_new (k' := 1) (n' := 8) hC tk11 tw23 tw24 tw1 ⟨rfl, rfl, by decide, by decide⟩ dL_law_0 ?_
  obtain ⟨M497, eM497⟩ : ∃ z : mj_M, z = mj_new M 11 := ⟨_, rfl⟩
  replace h := h M497 eM497
  have ht498 : mj_tag M497 (mj_nx M) = 12 := by rw [eM497]; exact mj_u1_at _
  refine mx_setM eM497.symm ?_
  refine mx_dup hC dL_law_3 rfl ?_
  obtain ⟨hn499, h⟩ := h
  refine mx_callI (As := []) (st := [vR (mj_nx M)]) hC (ct_X11_init (mj_nx M) M497 _ h) ty_X11_init tw25 hn499 rfl (Nat.le_of_ble_eq_true rfl) ⟨rfl, rfl, ⟨by decide, by decide⟩, by show _ ≤ 600000; omega, by show _ ≤ 7302250; omega⟩ dL_law_4 (fun _ M500 h => ?_)
  show mj_X g 7 [(0, vR ((b + 1)))] [vR (mj_nx M)] M500 24 283
  refine mx_astore_n (L' := [(1, vR (mj_nx M)), (0, vR ((b + 1)))]) hC dL_law_7 rfl (by decide) rfl ?_
  refine mx_new (k' := 25) (n' := 337) hC tk12 tw1203 tw1204 tw11 ⟨rfl, rfl, by decide, by decide⟩ dL_law_8 ?_
  obtain ⟨M501, eM501⟩ : ∃ z : mj_M, z = mj_new M500 12 := ⟨_, rfl⟩
  replace h := h M501 eM501
  have ht502 : mj_tag M501 (mj_nx M500) = 13 := by rw [eM501]; exact mj_u1_at _
  refine mx_setM eM501.symm ?_
  refine mx_dup hC dL_law_11 rfl ?_
  obtain ⟨hn503, h⟩ := h
  refine mx_callI (As := []) (st := [vR (mj_nx M500)]) hC (ct_X12_init (mj_nx M500) M501 _ h) ty_X12_init tw1205 hn503 rfl (Nat.le_of_ble_eq_true rfl) ⟨rfl, rfl, ⟨by decide, by decide⟩, by show _ ≤ 600000; omega, by show _ ≤ 7302250; omega⟩ dL_law_12 (fun _ M504 h => ?_)
  show mj_X g 15 [(1, vR (mj_nx M)), (0, vR ((b + 1)))] [vR (mj_nx M500)] M504 62 1967
  refine mx_astore_n (L' := [(2, vR (mj_nx M500)), (1, vR (mj_nx M)), (0, vR ((b + 1)))]) hC dL_law_15 rfl (by decide) rfl ?_
  refine mx_iconst (v := 0) hC dL_law_16 (by decide) ?_
  refine mx_istore_n (L' := [(3, vI 0), (2, vR (mj_nx M500)), (1, vR (mj_nx M)), (0, vR ((b + 1)))]) hC dL_law_17 rfl (by decide) rfl ?_
  refine mx_sub (L' := [(0, vR (b + 1)), (1, vR (mj_nx M)), (2, vR (mj_nx M500)), (3, vI 0)]) [3, 2, 1, 0] rfl ?_
  obtain ⟨fe, hfe, h⟩ := h
  exact show mj_X g 18 [(0, vR (b + 1)), (1, vR (mj_nx M)), (2, vR (mj_nx M500)), (3, vI 0)] [] M504 62 1967 from (xb_L_law_18 hC hE hSC fe (mj_nx M) (mj_nx M500) 0 M504 _ _ (by omega) (by omega) h)

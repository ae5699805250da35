/-! two contracts by hand: Arrays.copyOf(int[], int), and isFact (a String constant's indexOf) -/
def rm_J7_copyOf_59c91 : Room := { frames := 2, cells := 1, slots := 48, locals := 60 }
def mj_copy (M : mj_M) (a n : Nat) : mj_M := (mj_u1 (mj_tag M) (mj_nx M) 101, mj_u1 (mj_len M) (mj_nx M) n, mj_u1 (mj_i M) (mj_nx M) (fun j => if j < n then mj_i M a j else 0), mj_r M, mj_u1 (mj_l M) (mj_nx M) (fun _ => 0), mj_nx M + 1)
def vc_J7_copyOf_59c91 (l0 : Nat) (l1 : Int32) (M : mj_M) (post : Nat → mj_M → Prop) : Prop := mj_tag M l0 = 101 ∧ ¬ l1 < 0 ∧ l1.toNatClampNeg ≤ 48 ∧ mj_len M l0 = 48 ∧ post (mj_nx M) (mj_copy M l0 l1.toNatClampNeg)
theorem ct_J7_copyOf_59c91 {l : Launch} {base : Nat} {D : va_G} {A : ClassId × ClassId × ClassId} (l0 : Nat) (l1 : Int32) (M : mj_M) (post : Nat → mj_M → Prop) (h : vc_J7_copyOf_59c91 l0 l1 M post) : mj_Met l base D A mj_jR yJ7_copyOf_59c91 cJ7_copyOf_59c91 3 (some (.array .int)) rm_J7_copyOf_59c91 1 48 [vR l0, vI l1] M post := sorry
def rm_X11_isFact : Room := { frames := 8, cells := 0, slots := 0, locals := 250 }
def mj_fact (x : Int32) : Bool := decide (x = 108 ∨ x = 116 ∨ x = 104 ∨ x = 114 ∨ x = 102 ∨ x = 111 ∨ x = 115)
def vc_X11_isFact (l0 : Int32) (M : mj_M) (post : Bool → mj_M → Prop) : Prop := post (mj_fact l0) M
theorem ct_X11_isFact {l : Launch} {base : Nat} {D : va_G} {A : ClassId × ClassId × ClassId} (l0 : Int32) (M : mj_M) (post : Bool → mj_M → Prop) (h : vc_X11_isFact l0 M post) : mj_Met l base D A mj_jB yX11_isFact cX11_isFact 1 (some .boolean) rm_X11_isFact 0 0 [vI l0] M post := sorry

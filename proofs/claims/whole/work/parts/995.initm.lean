/-! STAGE B: the start: the reference's object -/
def kfM (B : Nat) : Nat → Nat → Nat := (mj_u2 (mj_u2 (mj_u2 (mj_u2 (mj_u2 (mj_u2 (mj_u2 (mj_u2 (mj_u2 (mj_u2 (mj_u2 (mj_u2 (mj_u2 (mj_u2 (mj_u2 (mj_u2 (mj_u2 (mj_u2 (mj_u2 (mj_u2 (mj_u2 (mj_u2 (mj_u2 (mj_u2 (mj_u2 (mj_u2 (mj_u2 (mj_u2 (mj_u2 (mj_u2 (mj_u2 (mj_u2 (mj_u2 (mj_u2 (mj_u2 (mj_u2 (mj_u2 (kfF B) 24 1 (B + 25)) 24 2 (B + 26)) 24 3 (B + 27)) 24 4 (B + 28)) 24 5 (B + 29)) 24 6 (B + 30)) 24 7 (B + 31)) 24 8 (B + 32)) 24 9 (B + 33)) 24 10 (B + 34)) 24 11 (B + 35)) 24 12 (B + 36)) 24 14 (B + 37)) 24 15 (B + 38)) 24 16 (B + 39)) 24 17 (B + 40)) 24 18 (B + 41)) 24 19 (B + 42)) 24 21 (B + 43)) 24 22 (B + 44)) 24 23 (B + 45)) 24 25 (B + 46)) 24 26 (B + 47)) 24 27 (B + 48)) 24 28 (B + 49)) 24 29 (B + 50)) 24 31 (B + 51)) 24 32 (B + 52)) 24 33 (B + 53)) 24 34 (B + 54)) 24 36 (B + 55)) 24 37 (B + 56)) 24 44 (B + 57)) 24 49 (B + 58)) 24 50 (B + 59)) 24 51 (B + 60)) 24 52 (B + 61))
def ksM : Nat → Nat → Int32 := mj_u2 (mj_u2 (fun _ _ => 0) 0 42 100) 0 43 50
def ksF : Nat → Nat → Int32 := kpF (kpF ksM 14 12 1) 15 10 (-6)
set_option maxRecDepth 100000 in
set_option maxHeartbeats 4000000 in
theorem i_X12 {B : Nat} (hB : 0 < B) {post : Unit → mj_M → Prop} (hp : post () (kpM B 62 kcF ksF (kfM B))) : vc_X12_init (B + 24) (kpM B 25 kcF (fun _ _ => 0) (kfF B)) post := by
  unfold vc_X12_init
  refine ⟨by omega, fun M e => ?_⟩
  (try simp only [kp_nx] at e)
  rw [kp_newa (j := 25) (j' := 26) (v := 101) (n := 40) rfl rfl rfl (fun h => absurd h (by decide)) (fun _ => by funext k; simp [mj_u2, kFl]) (by funext k; simp [mj_u2, kfF])] at e
  subst e
  refine ⟨kp_tag (a := 24) (by decide), fun M e => ?_⟩
  (try simp only [kp_nx] at e)
  rw [kp_wr (a := 24) (by decide), kp_newa (j := 26) (j' := 27) (v := 101) (n := 40) rfl rfl rfl (fun h => absurd h (by decide)) (fun _ => by funext k; simp [mj_u2, kFl]) (by funext k; simp [mj_u2, kfF])] at e
  subst e
  refine ⟨kp_tag (a := 24) (by decide), fun M e => ?_⟩
  (try simp only [kp_nx] at e)
  rw [kp_wr (a := 24) (by decide), kp_newa (j := 27) (j' := 28) (v := 101) (n := 40) rfl rfl rfl (fun h => absurd h (by decide)) (fun _ => by funext k; simp [mj_u2, kFl]) (by funext k; simp [mj_u2, kfF])] at e
  subst e
  refine ⟨kp_tag (a := 24) (by decide), fun M e => ?_⟩
  (try simp only [kp_nx] at e)
  rw [kp_wr (a := 24) (by decide), kp_newa (j := 28) (j' := 29) (v := 101) (n := 40) rfl rfl rfl (fun h => absurd h (by decide)) (fun _ => by funext k; simp [mj_u2, kFl]) (by funext k; simp [mj_u2, kfF])] at e
  subst e
  refine ⟨kp_tag (a := 24) (by decide), fun M e => ?_⟩
  (try simp only [kp_nx] at e)
  rw [kp_wr (a := 24) (by decide), kp_newa (j := 29) (j' := 30) (v := 101) (n := 40) rfl rfl rfl (fun h => absurd h (by decide)) (fun _ => by funext k; simp [mj_u2, kFl]) (by funext k; simp [mj_u2, kfF])] at e
  subst e
  refine ⟨kp_tag (a := 24) (by decide), fun M e => ?_⟩
  (try simp only [kp_nx] at e)
  rw [kp_wr (a := 24) (by decide), kp_newa (j := 30) (j' := 31) (v := 101) (n := 40) rfl rfl rfl (fun h => absurd h (by decide)) (fun _ => by funext k; simp [mj_u2, kFl]) (by funext k; simp [mj_u2, kfF])] at e
  subst e
  refine ⟨kp_tag (a := 24) (by decide), fun M e => ?_⟩
  (try simp only [kp_nx] at e)
  rw [kp_wr (a := 24) (by decide), kp_newa (j := 31) (j' := 32) (v := 101) (n := 40) rfl rfl rfl (fun h => absurd h (by decide)) (fun _ => by funext k; simp [mj_u2, kFl]) (by funext k; simp [mj_u2, kfF])] at e
  subst e
  refine ⟨kp_tag (a := 24) (by decide), fun M e => ?_⟩
  (try simp only [kp_nx] at e)
  rw [kp_wr (a := 24) (by decide), kp_newa (j := 32) (j' := 33) (v := 101) (n := 40) rfl rfl rfl (fun h => absurd h (by decide)) (fun _ => by funext k; simp [mj_u2, kFl]) (by funext k; simp [mj_u2, kfF])] at e
  subst e
  refine ⟨kp_tag (a := 24) (by decide), fun M e => ?_⟩
  (try simp only [kp_nx] at e)
  rw [kp_wr (a := 24) (by decide), kp_newa (j := 33) (j' := 34) (v := 101) (n := 40) rfl rfl rfl (fun h => absurd h (by decide)) (fun _ => by funext k; simp [mj_u2, kFl]) (by funext k; simp [mj_u2, kfF])] at e
  subst e
  refine ⟨kp_tag (a := 24) (by decide), fun M e => ?_⟩
  (try simp only [kp_nx] at e)
  rw [kp_wr (a := 24) (by decide), kp_newa (j := 34) (j' := 35) (v := 101) (n := 40) rfl rfl rfl (fun h => absurd h (by decide)) (fun _ => by funext k; simp [mj_u2, kFl]) (by funext k; simp [mj_u2, kfF])] at e
  subst e
  refine ⟨kp_tag (a := 24) (by decide), fun M e => ?_⟩
  (try simp only [kp_nx] at e)
  rw [kp_wr (a := 24) (by decide), kp_newa (j := 35) (j' := 36) (v := 101) (n := 40) rfl rfl rfl (fun h => absurd h (by decide)) (fun _ => by funext k; simp [mj_u2, kFl]) (by funext k; simp [mj_u2, kfF])] at e
  subst e
  refine ⟨kp_tag (a := 24) (by decide), fun M e => ?_⟩
  (try simp only [kp_nx] at e)
  rw [kp_wr (a := 24) (by decide), kp_newa (j := 36) (j' := 37) (v := 101) (n := 40) rfl rfl rfl (fun h => absurd h (by decide)) (fun _ => by funext k; simp [mj_u2, kFl]) (by funext k; simp [mj_u2, kfF])] at e
  subst e
  refine ⟨kp_tag (a := 24) (by decide), fun M e => ?_⟩
  (try simp only [kp_nx] at e)
  rw [kp_wr (a := 24) (by decide), kp_newa (j := 37) (j' := 38) (v := 101) (n := 12) rfl rfl rfl (fun h => absurd h (by decide)) (fun _ => by funext k; simp [mj_u2, kFl]) (by funext k; simp [mj_u2, kfF])] at e
  subst e
  refine ⟨kp_tag (a := 24) (by decide), fun M e => ?_⟩
  (try simp only [kp_nx] at e)
  rw [kp_wr (a := 24) (by decide), kp_newa (j := 38) (j' := 39) (v := 101) (n := 10) rfl rfl rfl (fun h => absurd h (by decide)) (fun _ => by funext k; simp [mj_u2, kFl]) (by funext k; simp [mj_u2, kfF])] at e
  subst e
  refine ⟨kp_tag (a := 24) (by decide), fun M e => ?_⟩
  (try simp only [kp_nx] at e)
  rw [kp_wr (a := 24) (by decide), kp_newa (j := 39) (j' := 40) (v := 101) (n := 624) rfl rfl rfl (fun h => absurd h (by decide)) (fun _ => by funext k; simp [mj_u2, kFl]) (by funext k; simp [mj_u2, kfF])] at e
  subst e
  refine ⟨kp_tag (a := 24) (by decide), fun M e => ?_⟩
  (try simp only [kp_nx] at e)
  rw [kp_wr (a := 24) (by decide), kp_newa (j := 40) (j' := 41) (v := 101) (n := 13) rfl rfl rfl (fun h => absurd h (by decide)) (fun _ => by funext k; simp [mj_u2, kFl]) (by funext k; simp [mj_u2, kfF])] at e
  subst e
  refine ⟨kp_tag (a := 24) (by decide), fun M e => ?_⟩
  (try simp only [kp_nx] at e)
  rw [kp_wr (a := 24) (by decide), kp_newa (j := 41) (j' := 42) (v := 101) (n := 12) rfl rfl rfl (fun h => absurd h (by decide)) (fun _ => by funext k; simp [mj_u2, kFl]) (by funext k; simp [mj_u2, kfF])] at e
  subst e
  refine ⟨kp_tag (a := 24) (by decide), fun M e => ?_⟩
  (try simp only [kp_nx] at e)
  rw [kp_wr (a := 24) (by decide), kp_newa (j := 42) (j' := 43) (v := 101) (n := 12) rfl rfl rfl (fun h => absurd h (by decide)) (fun _ => by funext k; simp [mj_u2, kFl]) (by funext k; simp [mj_u2, kfF])] at e
  subst e
  refine ⟨kp_tag (a := 24) (by decide), fun M e => ?_⟩
  (try simp only [kp_nx] at e)
  rw [kp_wr (a := 24) (by decide), kp_newa (j := 43) (j' := 44) (v := 103) (n := 49) rfl rfl rfl (fun h => absurd h (by decide)) (fun _ => by funext k; simp [mj_u2, kFl]) (by funext k; simp [mj_u2, kfF])] at e
  subst e
  refine ⟨kp_tag (a := 24) (by decide), fun M e => ?_⟩
  (try simp only [kp_nx] at e)
  rw [kp_wr (a := 24) (by decide), kp_newa (j := 44) (j' := 45) (v := 103) (n := 49) rfl rfl rfl (fun h => absurd h (by decide)) (fun _ => by funext k; simp [mj_u2, kFl]) (by funext k; simp [mj_u2, kfF])] at e
  subst e
  refine ⟨kp_tag (a := 24) (by decide), fun M e => ?_⟩
  (try simp only [kp_nx] at e)
  rw [kp_wr (a := 24) (by decide), kp_newa (j := 45) (j' := 46) (v := 103) (n := 49) rfl rfl rfl (fun h => absurd h (by decide)) (fun _ => by funext k; simp [mj_u2, kFl]) (by funext k; simp [mj_u2, kfF])] at e
  subst e
  refine ⟨kp_tag (a := 24) (by decide), fun M e => ?_⟩
  (try simp only [kp_nx] at e)
  rw [kp_wr (a := 24) (by decide), kp_newa (j := 46) (j' := 47) (v := 101) (n := 24) rfl rfl rfl (fun h => absurd h (by decide)) (fun _ => by funext k; simp [mj_u2, kFl]) (by funext k; simp [mj_u2, kfF])] at e
  subst e
  refine ⟨kp_tag (a := 24) (by decide), fun M e => ?_⟩
  (try simp only [kp_nx] at e)
  rw [kp_wr (a := 24) (by decide), kp_newa (j := 47) (j' := 48) (v := 101) (n := 24) rfl rfl rfl (fun h => absurd h (by decide)) (fun _ => by funext k; simp [mj_u2, kFl]) (by funext k; simp [mj_u2, kfF])] at e
  subst e
  refine ⟨kp_tag (a := 24) (by decide), fun M e => ?_⟩
  (try simp only [kp_nx] at e)
  rw [kp_wr (a := 24) (by decide), kp_newa (j := 48) (j' := 49) (v := 101) (n := 24) rfl rfl rfl (fun h => absurd h (by decide)) (fun _ => by funext k; simp [mj_u2, kFl]) (by funext k; simp [mj_u2, kfF])] at e
  subst e
  refine ⟨kp_tag (a := 24) (by decide), fun M e => ?_⟩
  (try simp only [kp_nx] at e)
  rw [kp_wr (a := 24) (by decide), kp_newa (j := 49) (j' := 50) (v := 101) (n := 24) rfl rfl rfl (fun h => absurd h (by decide)) (fun _ => by funext k; simp [mj_u2, kFl]) (by funext k; simp [mj_u2, kfF])] at e
  subst e
  refine ⟨kp_tag (a := 24) (by decide), fun M e => ?_⟩
  (try simp only [kp_nx] at e)
  rw [kp_wr (a := 24) (by decide), kp_newa (j := 50) (j' := 51) (v := 101) (n := 24) rfl rfl rfl (fun h => absurd h (by decide)) (fun _ => by funext k; simp [mj_u2, kFl]) (by funext k; simp [mj_u2, kfF])] at e
  subst e
  refine ⟨kp_tag (a := 24) (by decide), fun M e => ?_⟩
  (try simp only [kp_nx] at e)
  rw [kp_wr (a := 24) (by decide), kp_newa (j := 51) (j' := 52) (v := 103) (n := 40) rfl rfl rfl (fun h => absurd h (by decide)) (fun _ => by funext k; simp [mj_u2, kFl]) (by funext k; simp [mj_u2, kfF])] at e
  subst e
  refine ⟨kp_tag (a := 24) (by decide), fun M e => ?_⟩
  (try simp only [kp_nx] at e)
  rw [kp_wr (a := 24) (by decide), kp_newa (j := 52) (j' := 53) (v := 101) (n := 12) rfl rfl rfl (fun h => absurd h (by decide)) (fun _ => by funext k; simp [mj_u2, kFl]) (by funext k; simp [mj_u2, kfF])] at e
  subst e
  refine ⟨kp_tag (a := 24) (by decide), fun M e => ?_⟩
  (try simp only [kp_nx] at e)
  rw [kp_wr (a := 24) (by decide), kp_newa (j := 53) (j' := 54) (v := 101) (n := 10) rfl rfl rfl (fun h => absurd h (by decide)) (fun _ => by funext k; simp [mj_u2, kFl]) (by funext k; simp [mj_u2, kfF])] at e
  subst e
  refine ⟨kp_tag (a := 24) (by decide), fun M e => ?_⟩
  (try simp only [kp_nx] at e)
  rw [kp_wr (a := 24) (by decide), kp_newa (j := 54) (j' := 55) (v := 101) (n := 10) rfl rfl rfl (fun h => absurd h (by decide)) (fun _ => by funext k; simp [mj_u2, kFl]) (by funext k; simp [mj_u2, kfF])] at e
  subst e
  refine ⟨kp_tag (a := 24) (by decide), fun M e => ?_⟩
  (try simp only [kp_nx] at e)
  rw [kp_wr (a := 24) (by decide), kp_newa (j := 55) (j' := 56) (v := 101) (n := 20) rfl rfl rfl (fun h => absurd h (by decide)) (fun _ => by funext k; simp [mj_u2, kFl]) (by funext k; simp [mj_u2, kfF])] at e
  subst e
  refine ⟨kp_tag (a := 24) (by decide), fun M e => ?_⟩
  (try simp only [kp_nx] at e)
  rw [kp_wr (a := 24) (by decide), kp_newa (j := 56) (j' := 57) (v := 101) (n := 20) rfl rfl rfl (fun h => absurd h (by decide)) (fun _ => by funext k; simp [mj_u2, kFl]) (by funext k; simp [mj_u2, kfF])] at e
  subst e
  refine ⟨kp_tag (a := 24) (by decide), fun M e => ?_⟩
  (try simp only [kp_nx] at e)
  rw [kp_wr (a := 24) (by decide), kp_ws (a := 24) (by decide) (by decide) (by decide), kp_ws (a := 24) (by decide) (by decide) (by decide), kp_newa (j := 57) (j' := 58) (v := 102) (n := 40) rfl rfl rfl (fun h => absurd h (by decide)) (fun _ => by funext k; simp [mj_u2, kFl]) (by funext k; simp [mj_u2, kfF])] at e
  subst e
  refine ⟨kp_tag (a := 24) (by decide), fun M e => ?_⟩
  (try simp only [kp_nx] at e)
  rw [kp_wr (a := 24) (by decide), kp_newa (j := 58) (j' := 59) (v := 101) (n := 12) rfl rfl rfl (fun h => absurd h (by decide)) (fun _ => by funext k; simp [mj_u2, kFl]) (by funext k; simp [mj_u2, kfF])] at e
  subst e
  refine ⟨kp_tag (a := 24) (by decide), fun M e => ?_⟩
  (try simp only [kp_nx] at e)
  rw [kp_wr (a := 24) (by decide), kp_newa (j := 59) (j' := 60) (v := 101) (n := 12) rfl rfl rfl (fun h => absurd h (by decide)) (fun _ => by funext k; simp [mj_u2, kFl]) (by funext k; simp [mj_u2, kfF])] at e
  subst e
  refine ⟨kp_tag (a := 24) (by decide), fun M e => ?_⟩
  (try simp only [kp_nx] at e)
  rw [kp_wr (a := 24) (by decide), kp_newa (j := 60) (j' := 61) (v := 101) (n := 12) rfl rfl rfl (fun h => absurd h (by decide)) (fun _ => by funext k; simp [mj_u2, kFl]) (by funext k; simp [mj_u2, kfF])] at e
  subst e
  refine ⟨kp_tag (a := 24) (by decide), fun M e => ?_⟩
  (try simp only [kp_nx] at e)
  rw [kp_wr (a := 24) (by decide), kp_newa (j := 61) (j' := 62) (v := 101) (n := 12) rfl rfl rfl (fun h => absurd h (by decide)) (fun _ => by funext k; simp [mj_u2, kFl]) (by funext k; simp [mj_u2, kfF])] at e
  subst e
  refine ⟨kp_tag (a := 24) (by decide), ?_⟩
  (try simp only [kp_nx])
  rw [kp_wr (a := 24) (by decide)]
  show ∃ fe, vb_X12_init_315 post fe (B + 24) 0 (kpM B 62 kcF ksM (kfM B))
  have f14 : kfM B 24 14 = B + 37 := by simp [kfM, mj_u2]
  have f15 : kfM B 24 15 = B + 38 := by simp [kfM, mj_u2]
  have P := cl_w15 (B := B) (j := 62) (c := kcF) (s := kpF ksM 14 12 1) (f := kfM B) rfl f15 hp 10 0 (by omega)
  rw [kpF_0, nI_0] at P
  have Q := cl_w14 (B := B) (j := 62) (c := kcF) (s := ksM) (f := kfM B) rfl f14 P 12 0 (by omega)
  rw [kpF_0, nI_0] at Q
  exact Q

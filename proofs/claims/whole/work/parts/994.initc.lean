/-! STAGE B: the start: both objects are made -/
def kcF : Nat → Nat → Int32 := mj_u2 (mj_u2 (mj_u2 (kpF (kpF (fun _ _ => 0) 2 10 (-6)) 3 12 1) 9 4 100) 9 5 50) 16 7 (-6)
def kfF (B : Nat) : Nat → Nat → Nat := (mj_u2 (mj_u2 (mj_u2 (mj_u2 (mj_u2 (mj_u2 (mj_u2 (mj_u2 (mj_u2 (mj_u2 (mj_u2 (mj_u2 (mj_u2 (mj_u2 (mj_u2 (mj_u2 (mj_u2 (mj_u2 (mj_u2 (mj_u2 (mj_u2 (mj_u2 (mj_u2 (fun _ _ => 0) 1 4 (B + 2)) 1 5 (B + 3)) 0 0 (B + 1)) 4 0 (B + 5)) 4 1 (B + 6)) 0 1 (B + 4)) 0 2 (B + 7)) 0 3 (B + 8)) 9 0 (B + 10)) 9 1 (B + 11)) 9 2 (B + 12)) 0 4 (B + 9)) 13 0 (B + 14)) 13 1 (B + 15)) 0 5 (B + 13)) 16 0 (B + 17)) 16 1 (B + 18)) 16 2 (B + 19)) 16 3 (B + 20)) 16 4 (B + 21)) 16 5 (B + 22)) 0 6 (B + 16)) 0 7 (B + 23))
set_option maxRecDepth 100000 in
set_option maxHeartbeats 4000000 in
theorem i_X11 {B : Nat} (hB : 0 < B) {post : Unit → mj_M → Prop} (hp : post () (kpM B 24 kcF (fun _ _ => 0) (kfF B))) : vc_X11_init B (kpM B 1 (fun _ _ => 0) (fun _ _ => 0) (fun _ _ => 0)) post := by
  unfold vc_X11_init
  refine ⟨by omega, fun M e => ?_⟩
  (try simp only [kp_nx] at e)
  rw [kp_new (j := 1) (j' := 2) (v := 4) rfl rfl rfl (fun _ => by funext k; simp [mj_u2, kpF]) (fun h => absurd h (by decide)) (by funext k; simp [mj_u2])] at e
  subst e
  refine ⟨by (try simp only [kp_nx]); omega, ?_⟩
  (try simp only [kp_nx])
  unfold vc_X4_init
  refine ⟨by omega, fun M e => ?_⟩
  (try simp only [kp_nx] at e)
  rw [kp_newa (j := 2) (j' := 3) (v := 101) (n := 10) rfl rfl rfl (fun _ => by funext k; simp [mj_u2, kpF]) (fun h => absurd h (by decide)) (by funext k; simp [mj_u2])] at e
  subst e
  refine ⟨kp_tag (a := 1) (by decide), fun M e => ?_⟩
  (try simp only [kp_nx] at e)
  rw [kp_wr (a := 1) (by decide), kp_newa (j := 3) (j' := 4) (v := 101) (n := 12) rfl rfl rfl (fun _ => by funext k; simp [mj_u2, kpF]) (fun h => absurd h (by decide)) (by funext k; simp [mj_u2])] at e
  subst e
  refine ⟨kp_tag (a := 1) (by decide), ?_⟩
  (try simp only [kp_nx])
  rw [kp_wr (a := 1) (by decide), kp_r (a := 1) (by decide)]
  rw [show mj_u2 (mj_u2 (fun _ _ => 0) 1 4 (B + 2)) 1 5 (B + 3) 1 4 = B + 2 by simp [mj_u2]]
  refine c_fil2 (a := 2) (len := 10) (by decide) (by decide) rfl rfl (by decide) ?_
  refine ⟨kp_tag (a := 1) (by decide), ?_⟩
  rw [kp_r (a := 1) (by decide)]
  rw [show mj_u2 (mj_u2 (fun _ _ => 0) 1 4 (B + 2)) 1 5 (B + 3) 1 5 = B + 3 by simp [mj_u2]]
  refine c_fil2 (a := 3) (len := 12) (by decide) (by decide) rfl rfl (by decide) ?_
  refine ⟨kp_tag0 (by decide), fun M e => ?_⟩
  (try simp only [kp_nx] at e)
  rw [kp_wr0 (by decide), kp_new (j := 4) (j' := 5) (v := 1) rfl rfl rfl (fun _ => by funext k; simp [mj_u2, kpF]) (fun h => absurd h (by decide)) (by funext k; simp [mj_u2])] at e
  subst e
  refine ⟨by (try simp only [kp_nx]); omega, ?_⟩
  (try simp only [kp_nx])
  unfold vc_X1_init
  refine ⟨by omega, fun M e => ?_⟩
  (try simp only [kp_nx] at e)
  rw [kp_newa (j := 5) (j' := 6) (v := 101) (n := 48) rfl rfl rfl (fun _ => by funext k; simp [mj_u2, kpF]) (fun h => absurd h (by decide)) (by funext k; simp [mj_u2])] at e
  subst e
  refine ⟨kp_tag (a := 4) (by decide), fun M e => ?_⟩
  (try simp only [kp_nx] at e)
  rw [kp_wr (a := 4) (by decide), kp_new (j := 6) (j' := 7) (v := 2) rfl rfl rfl (fun _ => by funext k; simp [mj_u2, kpF]) (fun h => absurd h (by decide)) (by funext k; simp [mj_u2])] at e
  subst e
  refine ⟨by (try simp only [kp_nx]); omega, ?_⟩
  (try simp only [kp_nx])
  refine ⟨by omega, ?_⟩
  refine ⟨kp_tag (a := 4) (by decide), ?_⟩
  (try simp only [kp_nx])
  rw [kp_wr (a := 4) (by decide)]
  refine ⟨kp_tag0 (by decide), fun M e => ?_⟩
  (try simp only [kp_nx] at e)
  rw [kp_wr0 (by decide), kp_new (j := 7) (j' := 8) (v := 8) rfl rfl rfl (fun _ => by funext k; simp [mj_u2, kpF]) (fun h => absurd h (by decide)) (by funext k; simp [mj_u2])] at e
  subst e
  refine ⟨by (try simp only [kp_nx]); omega, ?_⟩
  (try simp only [kp_nx])
  refine ⟨by omega, ?_⟩
  refine ⟨kp_tag0 (by decide), fun M e => ?_⟩
  (try simp only [kp_nx] at e)
  rw [kp_wr0 (by decide), kp_new (j := 8) (j' := 9) (v := 7) rfl rfl rfl (fun _ => by funext k; simp [mj_u2, kpF]) (fun h => absurd h (by decide)) (by funext k; simp [mj_u2])] at e
  subst e
  refine ⟨by (try simp only [kp_nx]); omega, ?_⟩
  (try simp only [kp_nx])
  refine ⟨by omega, ?_⟩
  refine ⟨kp_tag0 (by decide), fun M e => ?_⟩
  (try simp only [kp_nx] at e)
  rw [kp_wr0 (by decide), kp_new (j := 9) (j' := 10) (v := 5) rfl rfl rfl (fun _ => by funext k; simp [mj_u2, kpF]) (fun h => absurd h (by decide)) (by funext k; simp [mj_u2])] at e
  subst e
  refine ⟨by (try simp only [kp_nx]); omega, ?_⟩
  (try simp only [kp_nx])
  unfold vc_X5_init
  refine ⟨by omega, fun M e => ?_⟩
  (try simp only [kp_nx] at e)
  rw [kp_newa (j := 10) (j' := 11) (v := 101) (n := 12) rfl rfl rfl (fun _ => by funext k; simp [mj_u2, kpF]) (fun h => absurd h (by decide)) (by funext k; simp [mj_u2])] at e
  subst e
  refine ⟨kp_tag (a := 9) (by decide), fun M e => ?_⟩
  (try simp only [kp_nx] at e)
  rw [kp_wr (a := 9) (by decide), kp_newa (j := 11) (j' := 12) (v := 101) (n := 10) rfl rfl rfl (fun _ => by funext k; simp [mj_u2, kpF]) (fun h => absurd h (by decide)) (by funext k; simp [mj_u2])] at e
  subst e
  refine ⟨kp_tag (a := 9) (by decide), fun M e => ?_⟩
  (try simp only [kp_nx] at e)
  rw [kp_wr (a := 9) (by decide), kp_newa (j := 12) (j' := 13) (v := 101) (n := 10) rfl rfl rfl (fun _ => by funext k; simp [mj_u2, kpF]) (fun h => absurd h (by decide)) (by funext k; simp [mj_u2])] at e
  subst e
  refine ⟨kp_tag (a := 9) (by decide), ?_⟩
  (try simp only [kp_nx])
  rw [kp_wr (a := 9) (by decide), kp_wc (a := 9) (by decide) (by decide), kp_wc (a := 9) (by decide) (by decide)]
  refine ⟨kp_tag0 (by decide), fun M e => ?_⟩
  (try simp only [kp_nx] at e)
  rw [kp_wr0 (by decide), kp_new (j := 13) (j' := 14) (v := 10) rfl rfl rfl (fun _ => by funext k; simp [mj_u2, kpF]) (fun h => absurd h (by decide)) (by funext k; simp [mj_u2])] at e
  subst e
  refine ⟨by (try simp only [kp_nx]); omega, ?_⟩
  (try simp only [kp_nx])
  unfold vc_X10_init
  refine ⟨by omega, fun M e => ?_⟩
  (try simp only [kp_nx] at e)
  rw [kp_newa (j := 14) (j' := 15) (v := 101) (n := 20) rfl rfl rfl (fun _ => by funext k; simp [mj_u2, kpF]) (fun h => absurd h (by decide)) (by funext k; simp [mj_u2])] at e
  subst e
  refine ⟨kp_tag (a := 13) (by decide), fun M e => ?_⟩
  (try simp only [kp_nx] at e)
  rw [kp_wr (a := 13) (by decide), kp_newa (j := 15) (j' := 16) (v := 101) (n := 20) rfl rfl rfl (fun _ => by funext k; simp [mj_u2, kpF]) (fun h => absurd h (by decide)) (by funext k; simp [mj_u2])] at e
  subst e
  refine ⟨kp_tag (a := 13) (by decide), ?_⟩
  (try simp only [kp_nx])
  rw [kp_wr (a := 13) (by decide)]
  refine ⟨kp_tag0 (by decide), fun M e => ?_⟩
  (try simp only [kp_nx] at e)
  rw [kp_wr0 (by decide), kp_new (j := 16) (j' := 17) (v := 9) rfl rfl rfl (fun _ => by funext k; simp [mj_u2, kpF]) (fun h => absurd h (by decide)) (by funext k; simp [mj_u2])] at e
  subst e
  refine ⟨by (try simp only [kp_nx]); omega, ?_⟩
  (try simp only [kp_nx])
  unfold vc_X9_init
  refine ⟨by omega, fun M e => ?_⟩
  (try simp only [kp_nx] at e)
  rw [kp_newa (j := 17) (j' := 18) (v := 101) (n := 12) rfl rfl rfl (fun _ => by funext k; simp [mj_u2, kpF]) (fun h => absurd h (by decide)) (by funext k; simp [mj_u2])] at e
  subst e
  refine ⟨kp_tag (a := 16) (by decide), fun M e => ?_⟩
  (try simp only [kp_nx] at e)
  rw [kp_wr (a := 16) (by decide), kp_newa (j := 18) (j' := 19) (v := 101) (n := 12) rfl rfl rfl (fun _ => by funext k; simp [mj_u2, kpF]) (fun h => absurd h (by decide)) (by funext k; simp [mj_u2])] at e
  subst e
  refine ⟨kp_tag (a := 16) (by decide), fun M e => ?_⟩
  (try simp only [kp_nx] at e)
  rw [kp_wr (a := 16) (by decide), kp_newa (j := 19) (j' := 20) (v := 101) (n := 12) rfl rfl rfl (fun _ => by funext k; simp [mj_u2, kpF]) (fun h => absurd h (by decide)) (by funext k; simp [mj_u2])] at e
  subst e
  refine ⟨kp_tag (a := 16) (by decide), fun M e => ?_⟩
  (try simp only [kp_nx] at e)
  rw [kp_wr (a := 16) (by decide), kp_newa (j := 20) (j' := 21) (v := 101) (n := 12) rfl rfl rfl (fun _ => by funext k; simp [mj_u2, kpF]) (fun h => absurd h (by decide)) (by funext k; simp [mj_u2])] at e
  subst e
  refine ⟨kp_tag (a := 16) (by decide), fun M e => ?_⟩
  (try simp only [kp_nx] at e)
  rw [kp_wr (a := 16) (by decide), kp_newa (j := 21) (j' := 22) (v := 101) (n := 12) rfl rfl rfl (fun _ => by funext k; simp [mj_u2, kpF]) (fun h => absurd h (by decide)) (by funext k; simp [mj_u2])] at e
  subst e
  refine ⟨kp_tag (a := 16) (by decide), fun M e => ?_⟩
  (try simp only [kp_nx] at e)
  rw [kp_wr (a := 16) (by decide), kp_newa (j := 22) (j' := 23) (v := 101) (n := 12) rfl rfl rfl (fun _ => by funext k; simp [mj_u2, kpF]) (fun h => absurd h (by decide)) (by funext k; simp [mj_u2])] at e
  subst e
  refine ⟨kp_tag (a := 16) (by decide), ?_⟩
  (try simp only [kp_nx])
  rw [kp_wr (a := 16) (by decide), kp_wc (a := 16) (by decide) (by decide)]
  refine ⟨kp_tag0 (by decide), fun M e => ?_⟩
  (try simp only [kp_nx] at e)
  rw [kp_wr0 (by decide), kp_newa (j := 23) (j' := 24) (v := 101) (n := 10) rfl rfl rfl (fun _ => by funext k; simp [mj_u2, kpF]) (fun h => absurd h (by decide)) (by funext k; simp [mj_u2])] at e
  subst e
  refine ⟨kp_tag0 (by decide), ?_⟩
  (try simp only [kp_nx])
  rw [kp_wr0 (by decide)]
  exact hp

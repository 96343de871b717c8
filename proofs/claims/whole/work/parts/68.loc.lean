/-! ===== what lies outside a shore doesn't matter to it ===== -/
section LC
variable {n b q : Nat} {wd hi : Int} {g : Int → Int}
def out (b q : Nat) : Prop := q < b ∨ b + 14 ≤ q
theorem st_out (h : q ≠ b) (W : Mem) (k v : Int) : st (sp W q g) b k v = sp (st W b k v) q g := by
  rw [st_sp, sp_n (Ne.symm h), st_sp, sp_comm W g _ h]
theorem drM_out (h : out b q) (W : Mem) : drM b (sp W q g) = sp (drM b W) q g := by
  unfold drM; rw [st_out (by unfold out at h; omega), sp_n (by unfold out at h; omega)]
theorem shd_out (h : out b q) (W : Mem) {j : Nat} (hj : j < 14) : sp W q g (b + j) = W (b + j) := sp_n (by unfold out at h; omega)
theorem lfB_out (h : out b q) (w c : Int) (W : Mem) : lfB wd hi b w c (sp W q g) = lfB wd hi b w c W := by
  unfold lfB
  rw [sp_n (show b + 1 ≠ q by unfold out at h; omega), sp_n (show b + 6 ≠ q by unfold out at h; omega), sp_n (show b + 3 ≠ q by unfold out at h; omega), sp_n (show b ≠ q by unfold out at h; omega)]
theorem lfM_out (h : out b q) (w c : Int) (W : Mem) : lfM wd hi b w c (sp W q g) = sp (lfM wd hi b w c W) q g := by
  unfold lfM
  rw [sp_n (show b + 1 ≠ q by unfold out at h; omega), sp_n (show b + 6 ≠ q by unfold out at h; omega), sp_n (show b + 3 ≠ q by unfold out at h; omega), drM_out h]
  split <;> rfl
theorem ldB_out (h : out b q) (w c : Int) (W : Mem) : ldB wd hi b w c (sp W q g) = ldB wd hi b w c W := by
  unfold ldB
  rw [sp_n (show b + 1 ≠ q by unfold out at h; omega), sp_n (show b + 4 ≠ q by unfold out at h; omega), sp_n (show b + 10 ≠ q by unfold out at h; omega), sp_n (show b ≠ q by unfold out at h; omega)]
theorem ldM_out (h : out b q) (w c : Int) (W : Mem) : ldM wd hi b w c (sp W q g) = sp (ldM wd hi b w c W) q g := by
  unfold ldM
  rw [sp_n (show b + 1 ≠ q by unfold out at h; omega), sp_n (show b + 4 ≠ q by unfold out at h; omega), drM_out h]
  split <;> rfl
theorem landR_out (h : out b q) (w : Int) : ∀ (k : Nat) (a : Int) (W : Mem), (landR wd hi b w k a (sp W q g)).1 = (landR wd hi b w k a W).1 ∧ (landR wd hi b w k a (sp W q g)).2 = sp (landR wd hi b w k a W).2 q g
  | 0, _, _ => ⟨rfl, rfl⟩
  | k + 1, a, W => by
    rw [landR_s, landR_s, sp_n (show b + 10 ≠ q by unfold out at h; omega), ldB_out h, ldM_out h]
    split
    · exact ⟨rfl, rfl⟩
    · split
      · exact ⟨rfl, rfl⟩
      · split
        · exact ⟨rfl, rfl⟩
        · exact landR_out h w k _ _
theorem hput_out (h : out b q) (c v : Int) (W : Mem) : hput n wd hi b c v (sp W q g) = sp (hput n wd hi b c v W) q g := by
  unfold hput
  rw [sp_n (show b + 10 ≠ q by unfold out at h; omega), sp_n (show b + 1 ≠ q by unfold out at h; omega), sp_comm W g _ (show q ≠ b + 1 by unfold out at h; omega)]
theorem loseM_out (h : out b q) (w : Int) (W : Mem) : loseM b w (sp W q g) = sp (loseM b w W) q g := by
  unfold loseM
  rw [sp_n (show b ≠ q by unfold out at h; omega), st_out (by unfold out at h; omega), st_out (by unfold out at h; omega)]
  split <;> rfl
theorem flyM_out (h : out b q) (w c : Int) (W : Mem) : flyM n wd hi b w c (sp W q g) = sp (flyM n wd hi b w c W) q g := by
  obtain ⟨e1, e2⟩ := landR_out (wd := wd) (hi := hi) (g := g) h w 10 c W
  unfold flyM
  rw [e1, e2, sp_n (show b + 1 ≠ q by unfold out at h; omega), hput_out h, loseM_out h]
  split <;> rfl
theorem liftM_out (h : out b q) (w : Int) (W : Mem) : liftM n wd hi b w (sp W q g) = sp (liftM n wd hi b w W) q g := by
  unfold liftM
  rw [sp_n (show b ≠ q by unfold out at h; omega), sp_n (show b + 1 ≠ q by unfold out at h; omega), drM_out h, lfB_out h, lfM_out h, hput_out h, flyM_out h]
  split <;> rfl
theorem itM_out {F : Mem → Mem} (hF : ∀ W, F (sp W q g) = sp (F W) q g) : ∀ (k : Nat) (W : Mem), itM F k (sp W q g) = sp (itM F k W) q g
  | 0, _ => rfl
  | k + 1, W => by show F (itM F k (sp W q g)) = sp (F (itM F k W)) q g; rw [itM_out hF k W, hF]
theorem supM_out (h : out b q) (W : Mem) : supM n wd hi b (sp W q g) = sp (supM n wd hi b W) q g := by
  unfold supM
  rw [sp_n (show b ≠ q by unfold out at h; omega), sp_n (show b + 1 ≠ q by unfold out at h; omega), st_out (by unfold out at h; omega), drM_out h, hput_out h]
theorem pdM_out (h : out b q) (W : Mem) : pdM (b + 11) (sp W q g) = sp (pdM (b + 11) W) q g := by
  unfold pdM
  rw [sp_n (show b + 11 ≠ q by unfold out at h; omega), sp_n (show b + 11 + 2 ≠ q by unfold out at h; omega), st_out (by unfold out at h; omega), st_out (by unfold out at h; omega), st_out (by unfold out at h; omega)]
  split
  · rfl
  · split <;> rfl
theorem reM_out (h : out b q) (W : Mem) : reM n b (sp W q g) = sp (reM n b W) q g := by
  unfold reM
  rw [sp_n (show b + 6 ≠ q by unfold out at h; omega), sp_n (show b + 7 ≠ q by unfold out at h; omega), sp_n (show b + 1 ≠ q by unfold out at h; omega), sp_n (show b ≠ q by unfold out at h; omega), sp_comm W g _ (show q ≠ b + 7 by unfold out at h; omega)]
theorem seM_out (h : out b q) (W : Mem) : seM n b (sp W q g) = sp (seM n b W) q g := by
  unfold seM
  rw [sp_n (show b + 3 ≠ q by unfold out at h; omega), sp_n (show b + 2 ≠ q by unfold out at h; omega), sp_n (show b + 1 ≠ q by unfold out at h; omega), sp_n (show b + 5 ≠ q by unfold out at h; omega), sp_comm W g _ (show q ≠ b + 3 by unfold out at h; omega), sp_comm _ g _ (show q ≠ b + 2 by unfold out at h; omega)]
theorem dayM_out (h : out b q) (W : Mem) : dayM n wd hi b (sp W q g) = sp (dayM n wd hi b W) q g := by
  have hw : wnd (b + 11) (sp W q g) = wnd (b + 11) W := by
    unfold wnd
    rw [sp_n (show b + 11 ≠ q by unfold out at h; omega), sp_n (show b + 11 + 1 ≠ q by unfold out at h; omega)]
  have hA : dayA n wd hi b (sp W q g) = sp (dayA n wd hi b W) q g := by
    unfold dayA
    rw [hw, sp_n (show b + 10 ≠ q by unfold out at h; omega), itM_out (supM_out h)]
    split <;> rfl
  have hB : ∀ (w : Int) (U : Mem), dayB n wd hi b w (sp U q g) = sp (dayB n wd hi b w U) q g := by
    intro w U
    unfold dayB blM
    rw [itM_out (liftM_out h w)]
    split <;> rfl
  have hC : ∀ U : Mem, dayC n b (sp U q g) = sp (dayC n b U) q g := by
    intro U
    unfold dayC
    rw [pdM_out h, sp_n (show b ≠ q by unfold out at h; omega), st_out (by unfold out at h; omega), reM_out h]
  have hE : ∀ U : Mem, dayE n b (sp U q g) = sp (dayE n b U) q g := by
    intro U
    unfold dayE
    rw [sp_n (show b ≠ q by unfold out at h; omega), seM_out h]
    split <;> rfl
  unfold dayM
  rw [hA, hw, hB, hC, hE]
theorem psM_out (h : out b q) (k : Nat) (W : Mem) : psM n wd hi b k (sp W q g) = sp (psM n wd hi b k W) q g := itM_out (dayM_out h) k W
theorem layM_out (h : out b q) (c k v : Int) (W : Mem) : layM b c k v (sp W q g) = sp (layM b c k v W) q g := by
  unfold layM
  rw [st_out (show q ≠ b + 3 by unfold out at h; omega), st_out (show q ≠ b + 4 by unfold out at h; omega), st_out (show q ≠ b + 5 by unfold out at h; omega), st_out (show q ≠ b + 6 by unfold out at h; omega), st_out (show q ≠ b + 7 by unfold out at h; omega)]
  split
  · rfl
  · split
    · rfl
    · split <;> rfl
theorem doM_out (h : out b q) (k c v : Int) (W : Mem) : doM n wd hi b k c v (sp W q g) = sp (doM n wd hi b k c v W) q g := by
  unfold doM
  rw [layM_out h, layM_out h, sp_n (show b + 1 ≠ q by unfold out at h; omega), hput_out h]
  split
  · rfl
  · split <;> rfl
theorem coM_out (h : out b q) (kf cf vf : Int → Int) (x : Int) : ∀ (i : Nat) (W : Mem), coM n wd hi b kf cf vf x i (sp W q g) = sp (coM n wd hi b kf cf vf x i W) q g
  | 0, _ => rfl
  | i + 1, W => by
    show (if bitv x (i : Int) = 1 then doM n wd hi b (kf (i : Int)) (cf (i : Int)) (vf (i : Int)) (coM n wd hi b kf cf vf x i (sp W q g)) else coM n wd hi b kf cf vf x i (sp W q g)) = sp (if bitv x (i : Int) = 1 then doM n wd hi b (kf (i : Int)) (cf (i : Int)) (vf (i : Int)) (coM n wd hi b kf cf vf x i W) else coM n wd hi b kf cf vf x i W) q g
    rw [coM_out h kf cf vf x i W, doM_out h]
    split <;> rfl
end LC

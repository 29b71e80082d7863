/-- no CODE of a number below C is LASTING t: STATE by STATE from the last -/
noncomputable def allB (k t m C : Nat) (cs ls : List Nat) : Bool := Nat.rec (motive := fun _ => Nat → List Nat → List Nat → Bool) (fun _ _ ls => cond (Nat.ble t (gd ls 0)) false true) (fun m ih C cs ls => frcL (bsV m (Nat.succ m) cs ls k 0 []) (fun bs => andX k (fun x => frc ((C + (k - 1) - x) / k) (fun c => cond (Nat.beq c 0) true (frc (mnV x bs) (fun l => ih c (x :: cs) (l :: ls))))))) m C cs ls
theorem allB_s (k t m C : Nat) (cs ls : List Nat) : allB k t (m + 1) C cs ls = andX k (fun x => if (C + (k - 1) - x) / k = 0 then true else allB k t m ((C + (k - 1) - x) / k) (x :: cs) (stL k m x cs ls :: ls)) := by
  show frcL (bsV m (Nat.succ m) cs ls k 0 []) (fun bs => andX k (fun x => frc ((C + (k - 1) - x) / k) (fun c => cond (Nat.beq c 0) true (frc (mnV x bs) (fun l => allB k t m c (x :: cs) (l :: ls)))))) = _
  rw [frcL_e]
  refine congrArg (andX k) (funext (fun x => ?_))
  rw [frc_e, beq_if, frc_e]
  rfl

/-! ===== the look depends on the city alone ===== -/
def lookF (u : Nat → Nat → Int32) (w : Nat → Int32) : Int64 := pL_look (fun _ => 0) (fun _ _ => 0) (fun _ => 0) (fun _ => 0) u w (fun _ => ((fun _ _ => 0), (fun _ => 0))) 0 (fun _ => 0) (fun _ _ => 0) (fun _ => 0) (fun _ _ => 0) (fun _ => 0) (fun _ _ => 0)
theorem look_F (rt : (Nat → Int32)) (sg : (Nat → Nat → Int32)) (pw : (Nat → Int32)) (rd : (Nat → Int32)) (u : (Nat → Nat → Int32)) (w : (Nat → Int32)) (h : (Nat → (Nat → Nat → Int32) × (Nat → Int32))) (r : Nat) (v : (Nat → Int32)) (tu : (Nat → Nat → Int32)) (tw : (Nat → Int32)) (su : (Nat → Nat → Int32)) (sw : (Nat → Int32)) (g : (Nat → Nat → Int32)) : pL_look rt sg pw rd u w h r v tu tw su sw g = lookF u w := by
  unfold lookF pL_look pL_look_L109 pL_look_L117 pL_look_L57 pL_look_L66 pL_look_L6
  rfl

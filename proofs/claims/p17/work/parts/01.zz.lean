def zz_cls : Class := { start1.cArr "[Q" 22 .int with methods := #[Lib.HandJ.method "clone" "()Ljava/lang/Object;" [] (some (.object "java/lang/Object")) 1 1 ⟨#[]⟩] }
def zz_bad : State := { start1.aboutOf #[] with vm := { (start1.aboutOf #[]).vm with classes := (start1.aboutOf #[]).vm.classes.push zz_cls }, heap := (start1.aboutOf #[]).heap.modify 4 (fun c => { c with cls := 30 }) }
/-- no answer has come back to the caller yet -/
def zz_up (s : State) : Bool := match s.frames with
  | .native _ :: [] => false
  | _ => true
def zz_next (s : State) : State := stepsAlone start1.p0.tables start1.e0 1 s
def zz_fin : Nat → State → Bool
  | 0, s => zz_up s && decide (s.status ≠ Status.running)
  | n + 1, s => zz_up s && zz_fin n (zz_next s)
theorem zz_t1 : zz_fin 260 zz_bad = true := by decide +kernel

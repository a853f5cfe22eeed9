/-! test -/
theorem tcon2 : (zrun (zro 0 (fun _ => 0) true) 3000 19 86 0 [(0, .ref 0)] [] [znew [] 11]).isSome = true := by decide +kernel

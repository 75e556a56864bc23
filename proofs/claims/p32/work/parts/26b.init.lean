/-! CONSTRUCTORS: the reference. Laid by gen/p26.py. -/
def modR (R : Nat → Nat → Option Nat) : Nat → Nat → Option Nat := up2R (up2R (up2R (up2R (up2R (up2R (up2R R 483 1 (some 484)) 483 4 (some 485)) 483 5 (some 486)) 483 6 (some 487)) 483 7 (some 488)) 483 9 (some 489)) 483 10 (some 490)
def modM (M : Nat → Nat → Int32) : Nat → Nat → Int32 := va_up M 27 (upd (fX7_clear_P (fun _ => 0) 4) 17 1)
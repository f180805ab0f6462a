/-! the class: copies, begin, read -/
def hH2_f4 (ad : Nat → Nat) (h : Mem)  : List Value := [.ref (ad 1), .ref (ad 5), .int (h 4 2)]
def hH2 (E : Ev) (ad : Nat → Nat) (rl : Nat) (h : Mem) : va_W := [(ad 4, .inr (1, hH2_f4 ad h)), (ad 5, .inl (E.2.1, rl, .inl (h 5)))]
theorem hH2_o4 {E : Ev} {ad : Nat → Nat} {rl : Nat} {h : Mem} : (hH2 E ad rl h)[0]? = some (ad 4, .inr (1, hH2_f4 ad h)) := rfl
theorem hH2_p4_2 {E : Ev} {ad : Nat → Nat} {rl : Nat} {h : Mem} {v : Int32} : (hH2 E ad rl h).set 0 (ad 4, .inr (1, (hH2_f4 ad h).set 2 (.int v))) = hH2 E ad rl (up h 4 2 v) := rfl
theorem hH2_a5 {E : Ev} {ad : Nat → Nat} {rl : Nat} {h : Mem} : (hH2 E ad rl h)[1]? = some (ad 5, .inl (E.2.1, rl, .inl (h 5))) := rfl
theorem hH2_A5 {E : Ev} {ad : Nat → Nat} {rl : Nat} {h : Mem} {f : Nat → Int32} : (hH2 E ad rl h).set 1 (ad 5, .inl (E.2.1, rl, .inl f)) = hH2 E ad rl (upA h 5 f) := rfl
theorem hH2_s5 {E : Ev} {ad : Nat → Nat} {rl : Nat} {h : Mem} {i : Nat} {v : Int32} : (hH2 E ad rl h).set 1 (ad 5, .inl (E.2.1, rl, .inl (upd (h 5) i v))) = hH2 E ad rl (up h 5 i v) := rfl
def hHC_f4 (ad : Nat → Nat) (h : Mem)  : List Value := [.ref (ad 1), .ref (ad 5), .int (h 4 2)]
def hHC_f104 (ad : Nat → Nat) (h2 : Mem)  : List Value := [.ref (ad 101), .ref (ad 105), .int (h2 4 2)]
def hHC (E : Ev) (ad : Nat → Nat) (rl : Nat) (rl2 : Nat) (h : Mem) (h2 : Mem) : va_W := [(ad 4, .inr (1, hHC_f4 ad h)), (ad 5, .inl (E.2.1, rl, .inl (h 5))), (ad 104, .inr (1, hHC_f104 ad h2)), (ad 105, .inl (E.2.1, rl2, .inl (h2 5)))]
theorem hHC_o4 {E : Ev} {ad : Nat → Nat} {rl : Nat} {rl2 : Nat} {h : Mem} {h2 : Mem} : (hHC E ad rl rl2 h h2)[0]? = some (ad 4, .inr (1, hHC_f4 ad h)) := rfl
theorem hHC_p4_2 {E : Ev} {ad : Nat → Nat} {rl : Nat} {rl2 : Nat} {h : Mem} {h2 : Mem} {v : Int32} : (hHC E ad rl rl2 h h2).set 0 (ad 4, .inr (1, (hHC_f4 ad h).set 2 (.int v))) = hHC E ad rl rl2 (up h 4 2 v) h2 := rfl
theorem hHC_a5 {E : Ev} {ad : Nat → Nat} {rl : Nat} {rl2 : Nat} {h : Mem} {h2 : Mem} : (hHC E ad rl rl2 h h2)[1]? = some (ad 5, .inl (E.2.1, rl, .inl (h 5))) := rfl
theorem hHC_A5 {E : Ev} {ad : Nat → Nat} {rl : Nat} {rl2 : Nat} {h : Mem} {h2 : Mem} {f : Nat → Int32} : (hHC E ad rl rl2 h h2).set 1 (ad 5, .inl (E.2.1, rl, .inl f)) = hHC E ad rl rl2 (upA h 5 f) h2 := rfl
theorem hHC_s5 {E : Ev} {ad : Nat → Nat} {rl : Nat} {rl2 : Nat} {h : Mem} {h2 : Mem} {i : Nat} {v : Int32} : (hHC E ad rl rl2 h h2).set 1 (ad 5, .inl (E.2.1, rl, .inl (upd (h 5) i v))) = hHC E ad rl rl2 (up h 5 i v) h2 := rfl
theorem hHC_o104 {E : Ev} {ad : Nat → Nat} {rl : Nat} {rl2 : Nat} {h : Mem} {h2 : Mem} : (hHC E ad rl rl2 h h2)[2]? = some (ad 104, .inr (1, hHC_f104 ad h2)) := rfl
theorem hHC_p104_2 {E : Ev} {ad : Nat → Nat} {rl : Nat} {rl2 : Nat} {h : Mem} {h2 : Mem} {v : Int32} : (hHC E ad rl rl2 h h2).set 2 (ad 104, .inr (1, (hHC_f104 ad h2).set 2 (.int v))) = hHC E ad rl rl2 h (up h2 4 2 v) := rfl
theorem hHC_a105 {E : Ev} {ad : Nat → Nat} {rl : Nat} {rl2 : Nat} {h : Mem} {h2 : Mem} : (hHC E ad rl rl2 h h2)[3]? = some (ad 105, .inl (E.2.1, rl2, .inl (h2 5))) := rfl
theorem hHC_A105 {E : Ev} {ad : Nat → Nat} {rl : Nat} {rl2 : Nat} {h : Mem} {h2 : Mem} {f : Nat → Int32} : (hHC E ad rl rl2 h h2).set 3 (ad 105, .inl (E.2.1, rl2, .inl f)) = hHC E ad rl rl2 h (upA h2 5 f) := rfl
theorem hHC_s105 {E : Ev} {ad : Nat → Nat} {rl : Nat} {rl2 : Nat} {h : Mem} {h2 : Mem} {i : Nat} {v : Int32} : (hHC E ad rl rl2 h h2).set 3 (ad 105, .inl (E.2.1, rl2, .inl (upd (h2 5) i v))) = hHC E ad rl rl2 h (up h2 5 i v) := rfl
def hEC_f1 (ad : Nat → Nat) (e : Mem)  : List Value := [.ref (ad 2), .ref (ad 3), .int (e 1 2)]
def hEC_f101 (ad : Nat → Nat) (e2 : Mem)  : List Value := [.ref (ad 102), .ref (ad 103), .int (e2 1 2)]
def hEC (E : Ev) (ad : Nat → Nat)  (e : Mem) (e2 : Mem) : va_W := [(ad 1, .inr (0, hEC_f1 ad e)), (ad 2, .inl (E.2.1, 8, .inl (e 2))), (ad 3, .inl (E.2.1, 8, .inl (e 3))), (ad 101, .inr (0, hEC_f101 ad e2)), (ad 102, .inl (E.2.1, 8, .inl (e2 2))), (ad 103, .inl (E.2.1, 8, .inl (e2 3)))]
theorem hEC_o1 {E : Ev} {ad : Nat → Nat}  {e : Mem} {e2 : Mem} : (hEC E ad e e2)[0]? = some (ad 1, .inr (0, hEC_f1 ad e)) := rfl
theorem hEC_p1_2 {E : Ev} {ad : Nat → Nat}  {e : Mem} {e2 : Mem} {v : Int32} : (hEC E ad e e2).set 0 (ad 1, .inr (0, (hEC_f1 ad e).set 2 (.int v))) = hEC E ad (up e 1 2 v) e2 := rfl
theorem hEC_a2 {E : Ev} {ad : Nat → Nat}  {e : Mem} {e2 : Mem} : (hEC E ad e e2)[1]? = some (ad 2, .inl (E.2.1, 8, .inl (e 2))) := rfl
theorem hEC_A2 {E : Ev} {ad : Nat → Nat}  {e : Mem} {e2 : Mem} {f : Nat → Int32} : (hEC E ad e e2).set 1 (ad 2, .inl (E.2.1, 8, .inl f)) = hEC E ad (upA e 2 f) e2 := rfl
theorem hEC_s2 {E : Ev} {ad : Nat → Nat}  {e : Mem} {e2 : Mem} {i : Nat} {v : Int32} : (hEC E ad e e2).set 1 (ad 2, .inl (E.2.1, 8, .inl (upd (e 2) i v))) = hEC E ad (up e 2 i v) e2 := rfl
theorem hEC_a3 {E : Ev} {ad : Nat → Nat}  {e : Mem} {e2 : Mem} : (hEC E ad e e2)[2]? = some (ad 3, .inl (E.2.1, 8, .inl (e 3))) := rfl
theorem hEC_A3 {E : Ev} {ad : Nat → Nat}  {e : Mem} {e2 : Mem} {f : Nat → Int32} : (hEC E ad e e2).set 2 (ad 3, .inl (E.2.1, 8, .inl f)) = hEC E ad (upA e 3 f) e2 := rfl
theorem hEC_s3 {E : Ev} {ad : Nat → Nat}  {e : Mem} {e2 : Mem} {i : Nat} {v : Int32} : (hEC E ad e e2).set 2 (ad 3, .inl (E.2.1, 8, .inl (upd (e 3) i v))) = hEC E ad (up e 3 i v) e2 := rfl
theorem hEC_o101 {E : Ev} {ad : Nat → Nat}  {e : Mem} {e2 : Mem} : (hEC E ad e e2)[3]? = some (ad 101, .inr (0, hEC_f101 ad e2)) := rfl
theorem hEC_p101_2 {E : Ev} {ad : Nat → Nat}  {e : Mem} {e2 : Mem} {v : Int32} : (hEC E ad e e2).set 3 (ad 101, .inr (0, (hEC_f101 ad e2).set 2 (.int v))) = hEC E ad e (up e2 1 2 v) := rfl
theorem hEC_a102 {E : Ev} {ad : Nat → Nat}  {e : Mem} {e2 : Mem} : (hEC E ad e e2)[4]? = some (ad 102, .inl (E.2.1, 8, .inl (e2 2))) := rfl
theorem hEC_A102 {E : Ev} {ad : Nat → Nat}  {e : Mem} {e2 : Mem} {f : Nat → Int32} : (hEC E ad e e2).set 4 (ad 102, .inl (E.2.1, 8, .inl f)) = hEC E ad e (upA e2 2 f) := rfl
theorem hEC_s102 {E : Ev} {ad : Nat → Nat}  {e : Mem} {e2 : Mem} {i : Nat} {v : Int32} : (hEC E ad e e2).set 4 (ad 102, .inl (E.2.1, 8, .inl (upd (e2 2) i v))) = hEC E ad e (up e2 2 i v) := rfl
theorem hEC_a103 {E : Ev} {ad : Nat → Nat}  {e : Mem} {e2 : Mem} : (hEC E ad e e2)[5]? = some (ad 103, .inl (E.2.1, 8, .inl (e2 3))) := rfl
theorem hEC_A103 {E : Ev} {ad : Nat → Nat}  {e : Mem} {e2 : Mem} {f : Nat → Int32} : (hEC E ad e e2).set 5 (ad 103, .inl (E.2.1, 8, .inl f)) = hEC E ad e (upA e2 3 f) := rfl
theorem hEC_s103 {E : Ev} {ad : Nat → Nat}  {e : Mem} {e2 : Mem} {i : Nat} {v : Int32} : (hEC E ad e e2).set 5 (ad 103, .inl (E.2.1, 8, .inl (upd (e2 3) i v))) = hEC E ad e (up e2 3 i v) := rfl
def hIC_f0 (ad : Nat → Nat) (o : Mem) (pa : Nat) : List Value := [.ref (ad 1), .ref (ad 4), .ref pa, .int (o 0 3), .int (o 0 4), .int (o 0 5), .int (o 0 6), .int (o 0 7), .int (o 0 8), .ref (ad 16), .ref (ad 17), .ref (ad 18), .ref (ad 19), .ref (ad 20), .ref (ad 21), .ref (ad 22), .ref (ad 23), .ref (ad 24)]
def hIC_f4 (ad : Nat → Nat) (h : Mem)  : List Value := [.ref (ad 1), .ref (ad 5), .int (h 4 2)]
def hIC_f100 (ad : Nat → Nat) (o2 : Mem) (pb : Nat) : List Value := [.ref (ad 101), .ref (ad 104), .ref pb, .int (o2 0 3), .int (o2 0 4), .int (o2 0 5), .int (o2 0 6), .int (o2 0 7), .int (o2 0 8), .ref (ad 116), .ref (ad 117), .ref (ad 118), .ref (ad 119), .ref (ad 120), .ref (ad 121), .ref (ad 122), .ref (ad 123), .ref (ad 124)]
def hIC_f104 (ad : Nat → Nat) (h2 : Mem)  : List Value := [.ref (ad 101), .ref (ad 105), .int (h2 4 2)]
def hIC (E : Ev) (ad : Nat → Nat) (rl : Nat) (rl2 : Nat) (o : Mem) (h : Mem) (pa : Nat) (o2 : Mem) (h2 : Mem) (pb : Nat) : va_W := [(ad 0, .inr (2, hIC_f0 ad o pa)), (ad 4, .inr (1, hIC_f4 ad h)), (ad 5, .inl (E.2.1, rl, .inl (h 5))), (ad 16, .inl (E.2.1, 4, .inl (o 16))), (ad 17, .inl (E.2.1, 8, .inl (o 17))), (ad 18, .inl (E.2.1, 24, .inl (o 18))), (ad 19, .inl (E.2.1, 24, .inl (o 19))), (ad 20, .inl (E.2.1, 24, .inl (o 20))), (ad 21, .inl (E.2.1, 24, .inl (o 21))), (ad 22, .inl (E.2.1, 25, .inl (o 22))), (ad 23, .inl (E.2.1, 25, .inl (o 23))), (ad 24, .inl (E.2.1, 25, .inl (o 24))), (ad 100, .inr (2, hIC_f100 ad o2 pb)), (ad 104, .inr (1, hIC_f104 ad h2)), (ad 105, .inl (E.2.1, rl2, .inl (h2 5))), (ad 116, .inl (E.2.1, 4, .inl (o2 16))), (ad 117, .inl (E.2.1, 8, .inl (o2 17))), (ad 118, .inl (E.2.1, 24, .inl (o2 18))), (ad 119, .inl (E.2.1, 24, .inl (o2 19))), (ad 120, .inl (E.2.1, 24, .inl (o2 20))), (ad 121, .inl (E.2.1, 24, .inl (o2 21))), (ad 122, .inl (E.2.1, 25, .inl (o2 22))), (ad 123, .inl (E.2.1, 25, .inl (o2 23))), (ad 124, .inl (E.2.1, 25, .inl (o2 24)))]
theorem hIC_o0 {E : Ev} {ad : Nat → Nat} {rl : Nat} {rl2 : Nat} {o : Mem} {h : Mem} {pa : Nat} {o2 : Mem} {h2 : Mem} {pb : Nat} : (hIC E ad rl rl2 o h pa o2 h2 pb)[0]? = some (ad 0, .inr (2, hIC_f0 ad o pa)) := rfl
theorem hIC_p0_3 {E : Ev} {ad : Nat → Nat} {rl : Nat} {rl2 : Nat} {o : Mem} {h : Mem} {pa : Nat} {o2 : Mem} {h2 : Mem} {pb : Nat} {v : Int32} : (hIC E ad rl rl2 o h pa o2 h2 pb).set 0 (ad 0, .inr (2, (hIC_f0 ad o pa).set 3 (.int v))) = hIC E ad rl rl2 (up o 0 3 v) h pa o2 h2 pb := rfl
theorem hIC_p0_4 {E : Ev} {ad : Nat → Nat} {rl : Nat} {rl2 : Nat} {o : Mem} {h : Mem} {pa : Nat} {o2 : Mem} {h2 : Mem} {pb : Nat} {v : Int32} : (hIC E ad rl rl2 o h pa o2 h2 pb).set 0 (ad 0, .inr (2, (hIC_f0 ad o pa).set 4 (.int v))) = hIC E ad rl rl2 (up o 0 4 v) h pa o2 h2 pb := rfl
theorem hIC_p0_5 {E : Ev} {ad : Nat → Nat} {rl : Nat} {rl2 : Nat} {o : Mem} {h : Mem} {pa : Nat} {o2 : Mem} {h2 : Mem} {pb : Nat} {v : Int32} : (hIC E ad rl rl2 o h pa o2 h2 pb).set 0 (ad 0, .inr (2, (hIC_f0 ad o pa).set 5 (.int v))) = hIC E ad rl rl2 (up o 0 5 v) h pa o2 h2 pb := rfl
theorem hIC_p0_6 {E : Ev} {ad : Nat → Nat} {rl : Nat} {rl2 : Nat} {o : Mem} {h : Mem} {pa : Nat} {o2 : Mem} {h2 : Mem} {pb : Nat} {v : Int32} : (hIC E ad rl rl2 o h pa o2 h2 pb).set 0 (ad 0, .inr (2, (hIC_f0 ad o pa).set 6 (.int v))) = hIC E ad rl rl2 (up o 0 6 v) h pa o2 h2 pb := rfl
theorem hIC_p0_7 {E : Ev} {ad : Nat → Nat} {rl : Nat} {rl2 : Nat} {o : Mem} {h : Mem} {pa : Nat} {o2 : Mem} {h2 : Mem} {pb : Nat} {v : Int32} : (hIC E ad rl rl2 o h pa o2 h2 pb).set 0 (ad 0, .inr (2, (hIC_f0 ad o pa).set 7 (.int v))) = hIC E ad rl rl2 (up o 0 7 v) h pa o2 h2 pb := rfl
theorem hIC_p0_8 {E : Ev} {ad : Nat → Nat} {rl : Nat} {rl2 : Nat} {o : Mem} {h : Mem} {pa : Nat} {o2 : Mem} {h2 : Mem} {pb : Nat} {v : Int32} : (hIC E ad rl rl2 o h pa o2 h2 pb).set 0 (ad 0, .inr (2, (hIC_f0 ad o pa).set 8 (.int v))) = hIC E ad rl rl2 (up o 0 8 v) h pa o2 h2 pb := rfl
theorem hIC_o4 {E : Ev} {ad : Nat → Nat} {rl : Nat} {rl2 : Nat} {o : Mem} {h : Mem} {pa : Nat} {o2 : Mem} {h2 : Mem} {pb : Nat} : (hIC E ad rl rl2 o h pa o2 h2 pb)[1]? = some (ad 4, .inr (1, hIC_f4 ad h)) := rfl
theorem hIC_p4_2 {E : Ev} {ad : Nat → Nat} {rl : Nat} {rl2 : Nat} {o : Mem} {h : Mem} {pa : Nat} {o2 : Mem} {h2 : Mem} {pb : Nat} {v : Int32} : (hIC E ad rl rl2 o h pa o2 h2 pb).set 1 (ad 4, .inr (1, (hIC_f4 ad h).set 2 (.int v))) = hIC E ad rl rl2 o (up h 4 2 v) pa o2 h2 pb := rfl
theorem hIC_a5 {E : Ev} {ad : Nat → Nat} {rl : Nat} {rl2 : Nat} {o : Mem} {h : Mem} {pa : Nat} {o2 : Mem} {h2 : Mem} {pb : Nat} : (hIC E ad rl rl2 o h pa o2 h2 pb)[2]? = some (ad 5, .inl (E.2.1, rl, .inl (h 5))) := rfl
theorem hIC_A5 {E : Ev} {ad : Nat → Nat} {rl : Nat} {rl2 : Nat} {o : Mem} {h : Mem} {pa : Nat} {o2 : Mem} {h2 : Mem} {pb : Nat} {f : Nat → Int32} : (hIC E ad rl rl2 o h pa o2 h2 pb).set 2 (ad 5, .inl (E.2.1, rl, .inl f)) = hIC E ad rl rl2 o (upA h 5 f) pa o2 h2 pb := rfl
theorem hIC_s5 {E : Ev} {ad : Nat → Nat} {rl : Nat} {rl2 : Nat} {o : Mem} {h : Mem} {pa : Nat} {o2 : Mem} {h2 : Mem} {pb : Nat} {i : Nat} {v : Int32} : (hIC E ad rl rl2 o h pa o2 h2 pb).set 2 (ad 5, .inl (E.2.1, rl, .inl (upd (h 5) i v))) = hIC E ad rl rl2 o (up h 5 i v) pa o2 h2 pb := rfl
theorem hIC_a16 {E : Ev} {ad : Nat → Nat} {rl : Nat} {rl2 : Nat} {o : Mem} {h : Mem} {pa : Nat} {o2 : Mem} {h2 : Mem} {pb : Nat} : (hIC E ad rl rl2 o h pa o2 h2 pb)[3]? = some (ad 16, .inl (E.2.1, 4, .inl (o 16))) := rfl
theorem hIC_A16 {E : Ev} {ad : Nat → Nat} {rl : Nat} {rl2 : Nat} {o : Mem} {h : Mem} {pa : Nat} {o2 : Mem} {h2 : Mem} {pb : Nat} {f : Nat → Int32} : (hIC E ad rl rl2 o h pa o2 h2 pb).set 3 (ad 16, .inl (E.2.1, 4, .inl f)) = hIC E ad rl rl2 (upA o 16 f) h pa o2 h2 pb := rfl
theorem hIC_s16 {E : Ev} {ad : Nat → Nat} {rl : Nat} {rl2 : Nat} {o : Mem} {h : Mem} {pa : Nat} {o2 : Mem} {h2 : Mem} {pb : Nat} {i : Nat} {v : Int32} : (hIC E ad rl rl2 o h pa o2 h2 pb).set 3 (ad 16, .inl (E.2.1, 4, .inl (upd (o 16) i v))) = hIC E ad rl rl2 (up o 16 i v) h pa o2 h2 pb := rfl
theorem hIC_a17 {E : Ev} {ad : Nat → Nat} {rl : Nat} {rl2 : Nat} {o : Mem} {h : Mem} {pa : Nat} {o2 : Mem} {h2 : Mem} {pb : Nat} : (hIC E ad rl rl2 o h pa o2 h2 pb)[4]? = some (ad 17, .inl (E.2.1, 8, .inl (o 17))) := rfl
theorem hIC_A17 {E : Ev} {ad : Nat → Nat} {rl : Nat} {rl2 : Nat} {o : Mem} {h : Mem} {pa : Nat} {o2 : Mem} {h2 : Mem} {pb : Nat} {f : Nat → Int32} : (hIC E ad rl rl2 o h pa o2 h2 pb).set 4 (ad 17, .inl (E.2.1, 8, .inl f)) = hIC E ad rl rl2 (upA o 17 f) h pa o2 h2 pb := rfl
theorem hIC_s17 {E : Ev} {ad : Nat → Nat} {rl : Nat} {rl2 : Nat} {o : Mem} {h : Mem} {pa : Nat} {o2 : Mem} {h2 : Mem} {pb : Nat} {i : Nat} {v : Int32} : (hIC E ad rl rl2 o h pa o2 h2 pb).set 4 (ad 17, .inl (E.2.1, 8, .inl (upd (o 17) i v))) = hIC E ad rl rl2 (up o 17 i v) h pa o2 h2 pb := rfl
theorem hIC_a18 {E : Ev} {ad : Nat → Nat} {rl : Nat} {rl2 : Nat} {o : Mem} {h : Mem} {pa : Nat} {o2 : Mem} {h2 : Mem} {pb : Nat} : (hIC E ad rl rl2 o h pa o2 h2 pb)[5]? = some (ad 18, .inl (E.2.1, 24, .inl (o 18))) := rfl
theorem hIC_A18 {E : Ev} {ad : Nat → Nat} {rl : Nat} {rl2 : Nat} {o : Mem} {h : Mem} {pa : Nat} {o2 : Mem} {h2 : Mem} {pb : Nat} {f : Nat → Int32} : (hIC E ad rl rl2 o h pa o2 h2 pb).set 5 (ad 18, .inl (E.2.1, 24, .inl f)) = hIC E ad rl rl2 (upA o 18 f) h pa o2 h2 pb := rfl
theorem hIC_s18 {E : Ev} {ad : Nat → Nat} {rl : Nat} {rl2 : Nat} {o : Mem} {h : Mem} {pa : Nat} {o2 : Mem} {h2 : Mem} {pb : Nat} {i : Nat} {v : Int32} : (hIC E ad rl rl2 o h pa o2 h2 pb).set 5 (ad 18, .inl (E.2.1, 24, .inl (upd (o 18) i v))) = hIC E ad rl rl2 (up o 18 i v) h pa o2 h2 pb := rfl
theorem hIC_a19 {E : Ev} {ad : Nat → Nat} {rl : Nat} {rl2 : Nat} {o : Mem} {h : Mem} {pa : Nat} {o2 : Mem} {h2 : Mem} {pb : Nat} : (hIC E ad rl rl2 o h pa o2 h2 pb)[6]? = some (ad 19, .inl (E.2.1, 24, .inl (o 19))) := rfl
theorem hIC_A19 {E : Ev} {ad : Nat → Nat} {rl : Nat} {rl2 : Nat} {o : Mem} {h : Mem} {pa : Nat} {o2 : Mem} {h2 : Mem} {pb : Nat} {f : Nat → Int32} : (hIC E ad rl rl2 o h pa o2 h2 pb).set 6 (ad 19, .inl (E.2.1, 24, .inl f)) = hIC E ad rl rl2 (upA o 19 f) h pa o2 h2 pb := rfl
theorem hIC_s19 {E : Ev} {ad : Nat → Nat} {rl : Nat} {rl2 : Nat} {o : Mem} {h : Mem} {pa : Nat} {o2 : Mem} {h2 : Mem} {pb : Nat} {i : Nat} {v : Int32} : (hIC E ad rl rl2 o h pa o2 h2 pb).set 6 (ad 19, .inl (E.2.1, 24, .inl (upd (o 19) i v))) = hIC E ad rl rl2 (up o 19 i v) h pa o2 h2 pb := rfl
theorem hIC_a20 {E : Ev} {ad : Nat → Nat} {rl : Nat} {rl2 : Nat} {o : Mem} {h : Mem} {pa : Nat} {o2 : Mem} {h2 : Mem} {pb : Nat} : (hIC E ad rl rl2 o h pa o2 h2 pb)[7]? = some (ad 20, .inl (E.2.1, 24, .inl (o 20))) := rfl
theorem hIC_A20 {E : Ev} {ad : Nat → Nat} {rl : Nat} {rl2 : Nat} {o : Mem} {h : Mem} {pa : Nat} {o2 : Mem} {h2 : Mem} {pb : Nat} {f : Nat → Int32} : (hIC E ad rl rl2 o h pa o2 h2 pb).set 7 (ad 20, .inl (E.2.1, 24, .inl f)) = hIC E ad rl rl2 (upA o 20 f) h pa o2 h2 pb := rfl
theorem hIC_s20 {E : Ev} {ad : Nat → Nat} {rl : Nat} {rl2 : Nat} {o : Mem} {h : Mem} {pa : Nat} {o2 : Mem} {h2 : Mem} {pb : Nat} {i : Nat} {v : Int32} : (hIC E ad rl rl2 o h pa o2 h2 pb).set 7 (ad 20, .inl (E.2.1, 24, .inl (upd (o 20) i v))) = hIC E ad rl rl2 (up o 20 i v) h pa o2 h2 pb := rfl
theorem hIC_a21 {E : Ev} {ad : Nat → Nat} {rl : Nat} {rl2 : Nat} {o : Mem} {h : Mem} {pa : Nat} {o2 : Mem} {h2 : Mem} {pb : Nat} : (hIC E ad rl rl2 o h pa o2 h2 pb)[8]? = some (ad 21, .inl (E.2.1, 24, .inl (o 21))) := rfl
theorem hIC_A21 {E : Ev} {ad : Nat → Nat} {rl : Nat} {rl2 : Nat} {o : Mem} {h : Mem} {pa : Nat} {o2 : Mem} {h2 : Mem} {pb : Nat} {f : Nat → Int32} : (hIC E ad rl rl2 o h pa o2 h2 pb).set 8 (ad 21, .inl (E.2.1, 24, .inl f)) = hIC E ad rl rl2 (upA o 21 f) h pa o2 h2 pb := rfl
theorem hIC_s21 {E : Ev} {ad : Nat → Nat} {rl : Nat} {rl2 : Nat} {o : Mem} {h : Mem} {pa : Nat} {o2 : Mem} {h2 : Mem} {pb : Nat} {i : Nat} {v : Int32} : (hIC E ad rl rl2 o h pa o2 h2 pb).set 8 (ad 21, .inl (E.2.1, 24, .inl (upd (o 21) i v))) = hIC E ad rl rl2 (up o 21 i v) h pa o2 h2 pb := rfl
theorem hIC_a22 {E : Ev} {ad : Nat → Nat} {rl : Nat} {rl2 : Nat} {o : Mem} {h : Mem} {pa : Nat} {o2 : Mem} {h2 : Mem} {pb : Nat} : (hIC E ad rl rl2 o h pa o2 h2 pb)[9]? = some (ad 22, .inl (E.2.1, 25, .inl (o 22))) := rfl
theorem hIC_A22 {E : Ev} {ad : Nat → Nat} {rl : Nat} {rl2 : Nat} {o : Mem} {h : Mem} {pa : Nat} {o2 : Mem} {h2 : Mem} {pb : Nat} {f : Nat → Int32} : (hIC E ad rl rl2 o h pa o2 h2 pb).set 9 (ad 22, .inl (E.2.1, 25, .inl f)) = hIC E ad rl rl2 (upA o 22 f) h pa o2 h2 pb := rfl
theorem hIC_s22 {E : Ev} {ad : Nat → Nat} {rl : Nat} {rl2 : Nat} {o : Mem} {h : Mem} {pa : Nat} {o2 : Mem} {h2 : Mem} {pb : Nat} {i : Nat} {v : Int32} : (hIC E ad rl rl2 o h pa o2 h2 pb).set 9 (ad 22, .inl (E.2.1, 25, .inl (upd (o 22) i v))) = hIC E ad rl rl2 (up o 22 i v) h pa o2 h2 pb := rfl
theorem hIC_a23 {E : Ev} {ad : Nat → Nat} {rl : Nat} {rl2 : Nat} {o : Mem} {h : Mem} {pa : Nat} {o2 : Mem} {h2 : Mem} {pb : Nat} : (hIC E ad rl rl2 o h pa o2 h2 pb)[10]? = some (ad 23, .inl (E.2.1, 25, .inl (o 23))) := rfl
theorem hIC_A23 {E : Ev} {ad : Nat → Nat} {rl : Nat} {rl2 : Nat} {o : Mem} {h : Mem} {pa : Nat} {o2 : Mem} {h2 : Mem} {pb : Nat} {f : Nat → Int32} : (hIC E ad rl rl2 o h pa o2 h2 pb).set 10 (ad 23, .inl (E.2.1, 25, .inl f)) = hIC E ad rl rl2 (upA o 23 f) h pa o2 h2 pb := rfl
theorem hIC_s23 {E : Ev} {ad : Nat → Nat} {rl : Nat} {rl2 : Nat} {o : Mem} {h : Mem} {pa : Nat} {o2 : Mem} {h2 : Mem} {pb : Nat} {i : Nat} {v : Int32} : (hIC E ad rl rl2 o h pa o2 h2 pb).set 10 (ad 23, .inl (E.2.1, 25, .inl (upd (o 23) i v))) = hIC E ad rl rl2 (up o 23 i v) h pa o2 h2 pb := rfl
theorem hIC_a24 {E : Ev} {ad : Nat → Nat} {rl : Nat} {rl2 : Nat} {o : Mem} {h : Mem} {pa : Nat} {o2 : Mem} {h2 : Mem} {pb : Nat} : (hIC E ad rl rl2 o h pa o2 h2 pb)[11]? = some (ad 24, .inl (E.2.1, 25, .inl (o 24))) := rfl
theorem hIC_A24 {E : Ev} {ad : Nat → Nat} {rl : Nat} {rl2 : Nat} {o : Mem} {h : Mem} {pa : Nat} {o2 : Mem} {h2 : Mem} {pb : Nat} {f : Nat → Int32} : (hIC E ad rl rl2 o h pa o2 h2 pb).set 11 (ad 24, .inl (E.2.1, 25, .inl f)) = hIC E ad rl rl2 (upA o 24 f) h pa o2 h2 pb := rfl
theorem hIC_s24 {E : Ev} {ad : Nat → Nat} {rl : Nat} {rl2 : Nat} {o : Mem} {h : Mem} {pa : Nat} {o2 : Mem} {h2 : Mem} {pb : Nat} {i : Nat} {v : Int32} : (hIC E ad rl rl2 o h pa o2 h2 pb).set 11 (ad 24, .inl (E.2.1, 25, .inl (upd (o 24) i v))) = hIC E ad rl rl2 (up o 24 i v) h pa o2 h2 pb := rfl
theorem hIC_o100 {E : Ev} {ad : Nat → Nat} {rl : Nat} {rl2 : Nat} {o : Mem} {h : Mem} {pa : Nat} {o2 : Mem} {h2 : Mem} {pb : Nat} : (hIC E ad rl rl2 o h pa o2 h2 pb)[12]? = some (ad 100, .inr (2, hIC_f100 ad o2 pb)) := rfl
theorem hIC_p100_3 {E : Ev} {ad : Nat → Nat} {rl : Nat} {rl2 : Nat} {o : Mem} {h : Mem} {pa : Nat} {o2 : Mem} {h2 : Mem} {pb : Nat} {v : Int32} : (hIC E ad rl rl2 o h pa o2 h2 pb).set 12 (ad 100, .inr (2, (hIC_f100 ad o2 pb).set 3 (.int v))) = hIC E ad rl rl2 o h pa (up o2 0 3 v) h2 pb := rfl
theorem hIC_p100_4 {E : Ev} {ad : Nat → Nat} {rl : Nat} {rl2 : Nat} {o : Mem} {h : Mem} {pa : Nat} {o2 : Mem} {h2 : Mem} {pb : Nat} {v : Int32} : (hIC E ad rl rl2 o h pa o2 h2 pb).set 12 (ad 100, .inr (2, (hIC_f100 ad o2 pb).set 4 (.int v))) = hIC E ad rl rl2 o h pa (up o2 0 4 v) h2 pb := rfl
theorem hIC_p100_5 {E : Ev} {ad : Nat → Nat} {rl : Nat} {rl2 : Nat} {o : Mem} {h : Mem} {pa : Nat} {o2 : Mem} {h2 : Mem} {pb : Nat} {v : Int32} : (hIC E ad rl rl2 o h pa o2 h2 pb).set 12 (ad 100, .inr (2, (hIC_f100 ad o2 pb).set 5 (.int v))) = hIC E ad rl rl2 o h pa (up o2 0 5 v) h2 pb := rfl
theorem hIC_p100_6 {E : Ev} {ad : Nat → Nat} {rl : Nat} {rl2 : Nat} {o : Mem} {h : Mem} {pa : Nat} {o2 : Mem} {h2 : Mem} {pb : Nat} {v : Int32} : (hIC E ad rl rl2 o h pa o2 h2 pb).set 12 (ad 100, .inr (2, (hIC_f100 ad o2 pb).set 6 (.int v))) = hIC E ad rl rl2 o h pa (up o2 0 6 v) h2 pb := rfl
theorem hIC_p100_7 {E : Ev} {ad : Nat → Nat} {rl : Nat} {rl2 : Nat} {o : Mem} {h : Mem} {pa : Nat} {o2 : Mem} {h2 : Mem} {pb : Nat} {v : Int32} : (hIC E ad rl rl2 o h pa o2 h2 pb).set 12 (ad 100, .inr (2, (hIC_f100 ad o2 pb).set 7 (.int v))) = hIC E ad rl rl2 o h pa (up o2 0 7 v) h2 pb := rfl
theorem hIC_p100_8 {E : Ev} {ad : Nat → Nat} {rl : Nat} {rl2 : Nat} {o : Mem} {h : Mem} {pa : Nat} {o2 : Mem} {h2 : Mem} {pb : Nat} {v : Int32} : (hIC E ad rl rl2 o h pa o2 h2 pb).set 12 (ad 100, .inr (2, (hIC_f100 ad o2 pb).set 8 (.int v))) = hIC E ad rl rl2 o h pa (up o2 0 8 v) h2 pb := rfl
theorem hIC_o104 {E : Ev} {ad : Nat → Nat} {rl : Nat} {rl2 : Nat} {o : Mem} {h : Mem} {pa : Nat} {o2 : Mem} {h2 : Mem} {pb : Nat} : (hIC E ad rl rl2 o h pa o2 h2 pb)[13]? = some (ad 104, .inr (1, hIC_f104 ad h2)) := rfl
theorem hIC_p104_2 {E : Ev} {ad : Nat → Nat} {rl : Nat} {rl2 : Nat} {o : Mem} {h : Mem} {pa : Nat} {o2 : Mem} {h2 : Mem} {pb : Nat} {v : Int32} : (hIC E ad rl rl2 o h pa o2 h2 pb).set 13 (ad 104, .inr (1, (hIC_f104 ad h2).set 2 (.int v))) = hIC E ad rl rl2 o h pa o2 (up h2 4 2 v) pb := rfl
theorem hIC_a105 {E : Ev} {ad : Nat → Nat} {rl : Nat} {rl2 : Nat} {o : Mem} {h : Mem} {pa : Nat} {o2 : Mem} {h2 : Mem} {pb : Nat} : (hIC E ad rl rl2 o h pa o2 h2 pb)[14]? = some (ad 105, .inl (E.2.1, rl2, .inl (h2 5))) := rfl
theorem hIC_A105 {E : Ev} {ad : Nat → Nat} {rl : Nat} {rl2 : Nat} {o : Mem} {h : Mem} {pa : Nat} {o2 : Mem} {h2 : Mem} {pb : Nat} {f : Nat → Int32} : (hIC E ad rl rl2 o h pa o2 h2 pb).set 14 (ad 105, .inl (E.2.1, rl2, .inl f)) = hIC E ad rl rl2 o h pa o2 (upA h2 5 f) pb := rfl
theorem hIC_s105 {E : Ev} {ad : Nat → Nat} {rl : Nat} {rl2 : Nat} {o : Mem} {h : Mem} {pa : Nat} {o2 : Mem} {h2 : Mem} {pb : Nat} {i : Nat} {v : Int32} : (hIC E ad rl rl2 o h pa o2 h2 pb).set 14 (ad 105, .inl (E.2.1, rl2, .inl (upd (h2 5) i v))) = hIC E ad rl rl2 o h pa o2 (up h2 5 i v) pb := rfl
theorem hIC_a116 {E : Ev} {ad : Nat → Nat} {rl : Nat} {rl2 : Nat} {o : Mem} {h : Mem} {pa : Nat} {o2 : Mem} {h2 : Mem} {pb : Nat} : (hIC E ad rl rl2 o h pa o2 h2 pb)[15]? = some (ad 116, .inl (E.2.1, 4, .inl (o2 16))) := rfl
theorem hIC_A116 {E : Ev} {ad : Nat → Nat} {rl : Nat} {rl2 : Nat} {o : Mem} {h : Mem} {pa : Nat} {o2 : Mem} {h2 : Mem} {pb : Nat} {f : Nat → Int32} : (hIC E ad rl rl2 o h pa o2 h2 pb).set 15 (ad 116, .inl (E.2.1, 4, .inl f)) = hIC E ad rl rl2 o h pa (upA o2 16 f) h2 pb := rfl
theorem hIC_s116 {E : Ev} {ad : Nat → Nat} {rl : Nat} {rl2 : Nat} {o : Mem} {h : Mem} {pa : Nat} {o2 : Mem} {h2 : Mem} {pb : Nat} {i : Nat} {v : Int32} : (hIC E ad rl rl2 o h pa o2 h2 pb).set 15 (ad 116, .inl (E.2.1, 4, .inl (upd (o2 16) i v))) = hIC E ad rl rl2 o h pa (up o2 16 i v) h2 pb := rfl
theorem hIC_a117 {E : Ev} {ad : Nat → Nat} {rl : Nat} {rl2 : Nat} {o : Mem} {h : Mem} {pa : Nat} {o2 : Mem} {h2 : Mem} {pb : Nat} : (hIC E ad rl rl2 o h pa o2 h2 pb)[16]? = some (ad 117, .inl (E.2.1, 8, .inl (o2 17))) := rfl
theorem hIC_A117 {E : Ev} {ad : Nat → Nat} {rl : Nat} {rl2 : Nat} {o : Mem} {h : Mem} {pa : Nat} {o2 : Mem} {h2 : Mem} {pb : Nat} {f : Nat → Int32} : (hIC E ad rl rl2 o h pa o2 h2 pb).set 16 (ad 117, .inl (E.2.1, 8, .inl f)) = hIC E ad rl rl2 o h pa (upA o2 17 f) h2 pb := rfl
theorem hIC_s117 {E : Ev} {ad : Nat → Nat} {rl : Nat} {rl2 : Nat} {o : Mem} {h : Mem} {pa : Nat} {o2 : Mem} {h2 : Mem} {pb : Nat} {i : Nat} {v : Int32} : (hIC E ad rl rl2 o h pa o2 h2 pb).set 16 (ad 117, .inl (E.2.1, 8, .inl (upd (o2 17) i v))) = hIC E ad rl rl2 o h pa (up o2 17 i v) h2 pb := rfl
theorem hIC_a118 {E : Ev} {ad : Nat → Nat} {rl : Nat} {rl2 : Nat} {o : Mem} {h : Mem} {pa : Nat} {o2 : Mem} {h2 : Mem} {pb : Nat} : (hIC E ad rl rl2 o h pa o2 h2 pb)[17]? = some (ad 118, .inl (E.2.1, 24, .inl (o2 18))) := rfl
theorem hIC_A118 {E : Ev} {ad : Nat → Nat} {rl : Nat} {rl2 : Nat} {o : Mem} {h : Mem} {pa : Nat} {o2 : Mem} {h2 : Mem} {pb : Nat} {f : Nat → Int32} : (hIC E ad rl rl2 o h pa o2 h2 pb).set 17 (ad 118, .inl (E.2.1, 24, .inl f)) = hIC E ad rl rl2 o h pa (upA o2 18 f) h2 pb := rfl
theorem hIC_s118 {E : Ev} {ad : Nat → Nat} {rl : Nat} {rl2 : Nat} {o : Mem} {h : Mem} {pa : Nat} {o2 : Mem} {h2 : Mem} {pb : Nat} {i : Nat} {v : Int32} : (hIC E ad rl rl2 o h pa o2 h2 pb).set 17 (ad 118, .inl (E.2.1, 24, .inl (upd (o2 18) i v))) = hIC E ad rl rl2 o h pa (up o2 18 i v) h2 pb := rfl
theorem hIC_a119 {E : Ev} {ad : Nat → Nat} {rl : Nat} {rl2 : Nat} {o : Mem} {h : Mem} {pa : Nat} {o2 : Mem} {h2 : Mem} {pb : Nat} : (hIC E ad rl rl2 o h pa o2 h2 pb)[18]? = some (ad 119, .inl (E.2.1, 24, .inl (o2 19))) := rfl
theorem hIC_A119 {E : Ev} {ad : Nat → Nat} {rl : Nat} {rl2 : Nat} {o : Mem} {h : Mem} {pa : Nat} {o2 : Mem} {h2 : Mem} {pb : Nat} {f : Nat → Int32} : (hIC E ad rl rl2 o h pa o2 h2 pb).set 18 (ad 119, .inl (E.2.1, 24, .inl f)) = hIC E ad rl rl2 o h pa (upA o2 19 f) h2 pb := rfl
theorem hIC_s119 {E : Ev} {ad : Nat → Nat} {rl : Nat} {rl2 : Nat} {o : Mem} {h : Mem} {pa : Nat} {o2 : Mem} {h2 : Mem} {pb : Nat} {i : Nat} {v : Int32} : (hIC E ad rl rl2 o h pa o2 h2 pb).set 18 (ad 119, .inl (E.2.1, 24, .inl (upd (o2 19) i v))) = hIC E ad rl rl2 o h pa (up o2 19 i v) h2 pb := rfl
theorem hIC_a120 {E : Ev} {ad : Nat → Nat} {rl : Nat} {rl2 : Nat} {o : Mem} {h : Mem} {pa : Nat} {o2 : Mem} {h2 : Mem} {pb : Nat} : (hIC E ad rl rl2 o h pa o2 h2 pb)[19]? = some (ad 120, .inl (E.2.1, 24, .inl (o2 20))) := rfl
theorem hIC_A120 {E : Ev} {ad : Nat → Nat} {rl : Nat} {rl2 : Nat} {o : Mem} {h : Mem} {pa : Nat} {o2 : Mem} {h2 : Mem} {pb : Nat} {f : Nat → Int32} : (hIC E ad rl rl2 o h pa o2 h2 pb).set 19 (ad 120, .inl (E.2.1, 24, .inl f)) = hIC E ad rl rl2 o h pa (upA o2 20 f) h2 pb := rfl
theorem hIC_s120 {E : Ev} {ad : Nat → Nat} {rl : Nat} {rl2 : Nat} {o : Mem} {h : Mem} {pa : Nat} {o2 : Mem} {h2 : Mem} {pb : Nat} {i : Nat} {v : Int32} : (hIC E ad rl rl2 o h pa o2 h2 pb).set 19 (ad 120, .inl (E.2.1, 24, .inl (upd (o2 20) i v))) = hIC E ad rl rl2 o h pa (up o2 20 i v) h2 pb := rfl
theorem hIC_a121 {E : Ev} {ad : Nat → Nat} {rl : Nat} {rl2 : Nat} {o : Mem} {h : Mem} {pa : Nat} {o2 : Mem} {h2 : Mem} {pb : Nat} : (hIC E ad rl rl2 o h pa o2 h2 pb)[20]? = some (ad 121, .inl (E.2.1, 24, .inl (o2 21))) := rfl
theorem hIC_A121 {E : Ev} {ad : Nat → Nat} {rl : Nat} {rl2 : Nat} {o : Mem} {h : Mem} {pa : Nat} {o2 : Mem} {h2 : Mem} {pb : Nat} {f : Nat → Int32} : (hIC E ad rl rl2 o h pa o2 h2 pb).set 20 (ad 121, .inl (E.2.1, 24, .inl f)) = hIC E ad rl rl2 o h pa (upA o2 21 f) h2 pb := rfl
theorem hIC_s121 {E : Ev} {ad : Nat → Nat} {rl : Nat} {rl2 : Nat} {o : Mem} {h : Mem} {pa : Nat} {o2 : Mem} {h2 : Mem} {pb : Nat} {i : Nat} {v : Int32} : (hIC E ad rl rl2 o h pa o2 h2 pb).set 20 (ad 121, .inl (E.2.1, 24, .inl (upd (o2 21) i v))) = hIC E ad rl rl2 o h pa (up o2 21 i v) h2 pb := rfl
theorem hIC_a122 {E : Ev} {ad : Nat → Nat} {rl : Nat} {rl2 : Nat} {o : Mem} {h : Mem} {pa : Nat} {o2 : Mem} {h2 : Mem} {pb : Nat} : (hIC E ad rl rl2 o h pa o2 h2 pb)[21]? = some (ad 122, .inl (E.2.1, 25, .inl (o2 22))) := rfl
theorem hIC_A122 {E : Ev} {ad : Nat → Nat} {rl : Nat} {rl2 : Nat} {o : Mem} {h : Mem} {pa : Nat} {o2 : Mem} {h2 : Mem} {pb : Nat} {f : Nat → Int32} : (hIC E ad rl rl2 o h pa o2 h2 pb).set 21 (ad 122, .inl (E.2.1, 25, .inl f)) = hIC E ad rl rl2 o h pa (upA o2 22 f) h2 pb := rfl
theorem hIC_s122 {E : Ev} {ad : Nat → Nat} {rl : Nat} {rl2 : Nat} {o : Mem} {h : Mem} {pa : Nat} {o2 : Mem} {h2 : Mem} {pb : Nat} {i : Nat} {v : Int32} : (hIC E ad rl rl2 o h pa o2 h2 pb).set 21 (ad 122, .inl (E.2.1, 25, .inl (upd (o2 22) i v))) = hIC E ad rl rl2 o h pa (up o2 22 i v) h2 pb := rfl
theorem hIC_a123 {E : Ev} {ad : Nat → Nat} {rl : Nat} {rl2 : Nat} {o : Mem} {h : Mem} {pa : Nat} {o2 : Mem} {h2 : Mem} {pb : Nat} : (hIC E ad rl rl2 o h pa o2 h2 pb)[22]? = some (ad 123, .inl (E.2.1, 25, .inl (o2 23))) := rfl
theorem hIC_A123 {E : Ev} {ad : Nat → Nat} {rl : Nat} {rl2 : Nat} {o : Mem} {h : Mem} {pa : Nat} {o2 : Mem} {h2 : Mem} {pb : Nat} {f : Nat → Int32} : (hIC E ad rl rl2 o h pa o2 h2 pb).set 22 (ad 123, .inl (E.2.1, 25, .inl f)) = hIC E ad rl rl2 o h pa (upA o2 23 f) h2 pb := rfl
theorem hIC_s123 {E : Ev} {ad : Nat → Nat} {rl : Nat} {rl2 : Nat} {o : Mem} {h : Mem} {pa : Nat} {o2 : Mem} {h2 : Mem} {pb : Nat} {i : Nat} {v : Int32} : (hIC E ad rl rl2 o h pa o2 h2 pb).set 22 (ad 123, .inl (E.2.1, 25, .inl (upd (o2 23) i v))) = hIC E ad rl rl2 o h pa (up o2 23 i v) h2 pb := rfl
theorem hIC_a124 {E : Ev} {ad : Nat → Nat} {rl : Nat} {rl2 : Nat} {o : Mem} {h : Mem} {pa : Nat} {o2 : Mem} {h2 : Mem} {pb : Nat} : (hIC E ad rl rl2 o h pa o2 h2 pb)[23]? = some (ad 124, .inl (E.2.1, 25, .inl (o2 24))) := rfl
theorem hIC_A124 {E : Ev} {ad : Nat → Nat} {rl : Nat} {rl2 : Nat} {o : Mem} {h : Mem} {pa : Nat} {o2 : Mem} {h2 : Mem} {pb : Nat} {f : Nat → Int32} : (hIC E ad rl rl2 o h pa o2 h2 pb).set 23 (ad 124, .inl (E.2.1, 25, .inl f)) = hIC E ad rl rl2 o h pa (upA o2 24 f) h2 pb := rfl
theorem hIC_s124 {E : Ev} {ad : Nat → Nat} {rl : Nat} {rl2 : Nat} {o : Mem} {h : Mem} {pa : Nat} {o2 : Mem} {h2 : Mem} {pb : Nat} {i : Nat} {v : Int32} : (hIC E ad rl rl2 o h pa o2 h2 pb).set 23 (ad 124, .inl (E.2.1, 25, .inl (upd (o2 24) i v))) = hIC E ad rl rl2 o h pa (up o2 24 i v) h2 pb := rfl
def hIB_f0 (ad : Nat → Nat) (o : Mem) (pa : Nat) : List Value := [.ref (ad 1), .ref (ad 4), .ref pa, .int (o 0 3), .int (o 0 4), .int (o 0 5), .int (o 0 6), .int (o 0 7), .int (o 0 8), .ref (ad 16), .ref (ad 17), .ref (ad 18), .ref (ad 19), .ref (ad 20), .ref (ad 21), .ref (ad 22), .ref (ad 23), .ref (ad 24)]
def hIB_f1 (ad : Nat → Nat) (e : Mem)  : List Value := [.ref (ad 2), .ref (ad 3), .int (e 1 2)]
def hIB_f4 (ad : Nat → Nat) (h : Mem)  : List Value := [.ref (ad 1), .ref (ad 5), .int (h 4 2)]
def hIB_f6 (ad : Nat → Nat) (p : Mem)  : List Value := [.int (p 6 0), .int (p 6 1), .ref (ad 7), .ref (ad 8), .ref (ad 9), .ref (ad 10), .ref (ad 11), .ref (ad 12), .ref (ad 13), .ref (ad 14), .ref (ad 15), .int (p 6 11), .int (p 6 12), .int (p 6 13), .int (p 6 14), .int (p 6 15)]
def hIB (E : Ev) (ad : Nat → Nat) (rl : Nat) (o : Mem) (h : Mem) (e : Mem) (p : Mem) (pa : Nat) : va_W := [(ad 0, .inr (2, hIB_f0 ad o pa)), (ad 1, .inr (0, hIB_f1 ad e)), (ad 2, .inl (E.2.1, 8, .inl (e 2))), (ad 3, .inl (E.2.1, 8, .inl (e 3))), (ad 4, .inr (1, hIB_f4 ad h)), (ad 5, .inl (E.2.1, rl, .inl (h 5))), (ad 16, .inl (E.2.1, 4, .inl (o 16))), (ad 17, .inl (E.2.1, 8, .inl (o 17))), (ad 18, .inl (E.2.1, 24, .inl (o 18))), (ad 19, .inl (E.2.1, 24, .inl (o 19))), (ad 20, .inl (E.2.1, 24, .inl (o 20))), (ad 21, .inl (E.2.1, 24, .inl (o 21))), (ad 22, .inl (E.2.1, 25, .inl (o 22))), (ad 23, .inl (E.2.1, 25, .inl (o 23))), (ad 24, .inl (E.2.1, 25, .inl (o 24))), (ad 6, .inr (4, hIB_f6 ad p)), (ad 7, .inl (E.2.1, 24, .inl (p 7))), (ad 8, .inl (E.2.1, 24, .inl (p 8))), (ad 9, .inl (E.2.1, 24, .inl (p 9))), (ad 10, .inl (E.2.1, 24, .inl (p 10))), (ad 11, .inl (E.2.1, 24, .inl (p 11))), (ad 12, .inl (E.2.1, 24, .inl (p 12))), (ad 13, .inl (E.2.1, 24, .inl (p 13))), (ad 14, .inl (E.2.1, 24, .inl (p 14))), (ad 15, .inl (E.2.1, 96, .inl (p 15)))]
theorem hIB_o0 {E : Ev} {ad : Nat → Nat} {rl : Nat} {o : Mem} {h : Mem} {e : Mem} {p : Mem} {pa : Nat} : (hIB E ad rl o h e p pa)[0]? = some (ad 0, .inr (2, hIB_f0 ad o pa)) := rfl
theorem hIB_p0_3 {E : Ev} {ad : Nat → Nat} {rl : Nat} {o : Mem} {h : Mem} {e : Mem} {p : Mem} {pa : Nat} {v : Int32} : (hIB E ad rl o h e p pa).set 0 (ad 0, .inr (2, (hIB_f0 ad o pa).set 3 (.int v))) = hIB E ad rl (up o 0 3 v) h e p pa := rfl
theorem hIB_p0_4 {E : Ev} {ad : Nat → Nat} {rl : Nat} {o : Mem} {h : Mem} {e : Mem} {p : Mem} {pa : Nat} {v : Int32} : (hIB E ad rl o h e p pa).set 0 (ad 0, .inr (2, (hIB_f0 ad o pa).set 4 (.int v))) = hIB E ad rl (up o 0 4 v) h e p pa := rfl
theorem hIB_p0_5 {E : Ev} {ad : Nat → Nat} {rl : Nat} {o : Mem} {h : Mem} {e : Mem} {p : Mem} {pa : Nat} {v : Int32} : (hIB E ad rl o h e p pa).set 0 (ad 0, .inr (2, (hIB_f0 ad o pa).set 5 (.int v))) = hIB E ad rl (up o 0 5 v) h e p pa := rfl
theorem hIB_p0_6 {E : Ev} {ad : Nat → Nat} {rl : Nat} {o : Mem} {h : Mem} {e : Mem} {p : Mem} {pa : Nat} {v : Int32} : (hIB E ad rl o h e p pa).set 0 (ad 0, .inr (2, (hIB_f0 ad o pa).set 6 (.int v))) = hIB E ad rl (up o 0 6 v) h e p pa := rfl
theorem hIB_p0_7 {E : Ev} {ad : Nat → Nat} {rl : Nat} {o : Mem} {h : Mem} {e : Mem} {p : Mem} {pa : Nat} {v : Int32} : (hIB E ad rl o h e p pa).set 0 (ad 0, .inr (2, (hIB_f0 ad o pa).set 7 (.int v))) = hIB E ad rl (up o 0 7 v) h e p pa := rfl
theorem hIB_p0_8 {E : Ev} {ad : Nat → Nat} {rl : Nat} {o : Mem} {h : Mem} {e : Mem} {p : Mem} {pa : Nat} {v : Int32} : (hIB E ad rl o h e p pa).set 0 (ad 0, .inr (2, (hIB_f0 ad o pa).set 8 (.int v))) = hIB E ad rl (up o 0 8 v) h e p pa := rfl
theorem hIB_o1 {E : Ev} {ad : Nat → Nat} {rl : Nat} {o : Mem} {h : Mem} {e : Mem} {p : Mem} {pa : Nat} : (hIB E ad rl o h e p pa)[1]? = some (ad 1, .inr (0, hIB_f1 ad e)) := rfl
theorem hIB_p1_2 {E : Ev} {ad : Nat → Nat} {rl : Nat} {o : Mem} {h : Mem} {e : Mem} {p : Mem} {pa : Nat} {v : Int32} : (hIB E ad rl o h e p pa).set 1 (ad 1, .inr (0, (hIB_f1 ad e).set 2 (.int v))) = hIB E ad rl o h (up e 1 2 v) p pa := rfl
theorem hIB_a2 {E : Ev} {ad : Nat → Nat} {rl : Nat} {o : Mem} {h : Mem} {e : Mem} {p : Mem} {pa : Nat} : (hIB E ad rl o h e p pa)[2]? = some (ad 2, .inl (E.2.1, 8, .inl (e 2))) := rfl
theorem hIB_A2 {E : Ev} {ad : Nat → Nat} {rl : Nat} {o : Mem} {h : Mem} {e : Mem} {p : Mem} {pa : Nat} {f : Nat → Int32} : (hIB E ad rl o h e p pa).set 2 (ad 2, .inl (E.2.1, 8, .inl f)) = hIB E ad rl o h (upA e 2 f) p pa := rfl
theorem hIB_s2 {E : Ev} {ad : Nat → Nat} {rl : Nat} {o : Mem} {h : Mem} {e : Mem} {p : Mem} {pa : Nat} {i : Nat} {v : Int32} : (hIB E ad rl o h e p pa).set 2 (ad 2, .inl (E.2.1, 8, .inl (upd (e 2) i v))) = hIB E ad rl o h (up e 2 i v) p pa := rfl
theorem hIB_a3 {E : Ev} {ad : Nat → Nat} {rl : Nat} {o : Mem} {h : Mem} {e : Mem} {p : Mem} {pa : Nat} : (hIB E ad rl o h e p pa)[3]? = some (ad 3, .inl (E.2.1, 8, .inl (e 3))) := rfl
theorem hIB_A3 {E : Ev} {ad : Nat → Nat} {rl : Nat} {o : Mem} {h : Mem} {e : Mem} {p : Mem} {pa : Nat} {f : Nat → Int32} : (hIB E ad rl o h e p pa).set 3 (ad 3, .inl (E.2.1, 8, .inl f)) = hIB E ad rl o h (upA e 3 f) p pa := rfl
theorem hIB_s3 {E : Ev} {ad : Nat → Nat} {rl : Nat} {o : Mem} {h : Mem} {e : Mem} {p : Mem} {pa : Nat} {i : Nat} {v : Int32} : (hIB E ad rl o h e p pa).set 3 (ad 3, .inl (E.2.1, 8, .inl (upd (e 3) i v))) = hIB E ad rl o h (up e 3 i v) p pa := rfl
theorem hIB_o4 {E : Ev} {ad : Nat → Nat} {rl : Nat} {o : Mem} {h : Mem} {e : Mem} {p : Mem} {pa : Nat} : (hIB E ad rl o h e p pa)[4]? = some (ad 4, .inr (1, hIB_f4 ad h)) := rfl
theorem hIB_p4_2 {E : Ev} {ad : Nat → Nat} {rl : Nat} {o : Mem} {h : Mem} {e : Mem} {p : Mem} {pa : Nat} {v : Int32} : (hIB E ad rl o h e p pa).set 4 (ad 4, .inr (1, (hIB_f4 ad h).set 2 (.int v))) = hIB E ad rl o (up h 4 2 v) e p pa := rfl
theorem hIB_a5 {E : Ev} {ad : Nat → Nat} {rl : Nat} {o : Mem} {h : Mem} {e : Mem} {p : Mem} {pa : Nat} : (hIB E ad rl o h e p pa)[5]? = some (ad 5, .inl (E.2.1, rl, .inl (h 5))) := rfl
theorem hIB_A5 {E : Ev} {ad : Nat → Nat} {rl : Nat} {o : Mem} {h : Mem} {e : Mem} {p : Mem} {pa : Nat} {f : Nat → Int32} : (hIB E ad rl o h e p pa).set 5 (ad 5, .inl (E.2.1, rl, .inl f)) = hIB E ad rl o (upA h 5 f) e p pa := rfl
theorem hIB_s5 {E : Ev} {ad : Nat → Nat} {rl : Nat} {o : Mem} {h : Mem} {e : Mem} {p : Mem} {pa : Nat} {i : Nat} {v : Int32} : (hIB E ad rl o h e p pa).set 5 (ad 5, .inl (E.2.1, rl, .inl (upd (h 5) i v))) = hIB E ad rl o (up h 5 i v) e p pa := rfl
theorem hIB_a16 {E : Ev} {ad : Nat → Nat} {rl : Nat} {o : Mem} {h : Mem} {e : Mem} {p : Mem} {pa : Nat} : (hIB E ad rl o h e p pa)[6]? = some (ad 16, .inl (E.2.1, 4, .inl (o 16))) := rfl
theorem hIB_A16 {E : Ev} {ad : Nat → Nat} {rl : Nat} {o : Mem} {h : Mem} {e : Mem} {p : Mem} {pa : Nat} {f : Nat → Int32} : (hIB E ad rl o h e p pa).set 6 (ad 16, .inl (E.2.1, 4, .inl f)) = hIB E ad rl (upA o 16 f) h e p pa := rfl
theorem hIB_s16 {E : Ev} {ad : Nat → Nat} {rl : Nat} {o : Mem} {h : Mem} {e : Mem} {p : Mem} {pa : Nat} {i : Nat} {v : Int32} : (hIB E ad rl o h e p pa).set 6 (ad 16, .inl (E.2.1, 4, .inl (upd (o 16) i v))) = hIB E ad rl (up o 16 i v) h e p pa := rfl
theorem hIB_a17 {E : Ev} {ad : Nat → Nat} {rl : Nat} {o : Mem} {h : Mem} {e : Mem} {p : Mem} {pa : Nat} : (hIB E ad rl o h e p pa)[7]? = some (ad 17, .inl (E.2.1, 8, .inl (o 17))) := rfl
theorem hIB_A17 {E : Ev} {ad : Nat → Nat} {rl : Nat} {o : Mem} {h : Mem} {e : Mem} {p : Mem} {pa : Nat} {f : Nat → Int32} : (hIB E ad rl o h e p pa).set 7 (ad 17, .inl (E.2.1, 8, .inl f)) = hIB E ad rl (upA o 17 f) h e p pa := rfl
theorem hIB_s17 {E : Ev} {ad : Nat → Nat} {rl : Nat} {o : Mem} {h : Mem} {e : Mem} {p : Mem} {pa : Nat} {i : Nat} {v : Int32} : (hIB E ad rl o h e p pa).set 7 (ad 17, .inl (E.2.1, 8, .inl (upd (o 17) i v))) = hIB E ad rl (up o 17 i v) h e p pa := rfl
theorem hIB_a18 {E : Ev} {ad : Nat → Nat} {rl : Nat} {o : Mem} {h : Mem} {e : Mem} {p : Mem} {pa : Nat} : (hIB E ad rl o h e p pa)[8]? = some (ad 18, .inl (E.2.1, 24, .inl (o 18))) := rfl
theorem hIB_A18 {E : Ev} {ad : Nat → Nat} {rl : Nat} {o : Mem} {h : Mem} {e : Mem} {p : Mem} {pa : Nat} {f : Nat → Int32} : (hIB E ad rl o h e p pa).set 8 (ad 18, .inl (E.2.1, 24, .inl f)) = hIB E ad rl (upA o 18 f) h e p pa := rfl
theorem hIB_s18 {E : Ev} {ad : Nat → Nat} {rl : Nat} {o : Mem} {h : Mem} {e : Mem} {p : Mem} {pa : Nat} {i : Nat} {v : Int32} : (hIB E ad rl o h e p pa).set 8 (ad 18, .inl (E.2.1, 24, .inl (upd (o 18) i v))) = hIB E ad rl (up o 18 i v) h e p pa := rfl
theorem hIB_a19 {E : Ev} {ad : Nat → Nat} {rl : Nat} {o : Mem} {h : Mem} {e : Mem} {p : Mem} {pa : Nat} : (hIB E ad rl o h e p pa)[9]? = some (ad 19, .inl (E.2.1, 24, .inl (o 19))) := rfl
theorem hIB_A19 {E : Ev} {ad : Nat → Nat} {rl : Nat} {o : Mem} {h : Mem} {e : Mem} {p : Mem} {pa : Nat} {f : Nat → Int32} : (hIB E ad rl o h e p pa).set 9 (ad 19, .inl (E.2.1, 24, .inl f)) = hIB E ad rl (upA o 19 f) h e p pa := rfl
theorem hIB_s19 {E : Ev} {ad : Nat → Nat} {rl : Nat} {o : Mem} {h : Mem} {e : Mem} {p : Mem} {pa : Nat} {i : Nat} {v : Int32} : (hIB E ad rl o h e p pa).set 9 (ad 19, .inl (E.2.1, 24, .inl (upd (o 19) i v))) = hIB E ad rl (up o 19 i v) h e p pa := rfl
theorem hIB_a20 {E : Ev} {ad : Nat → Nat} {rl : Nat} {o : Mem} {h : Mem} {e : Mem} {p : Mem} {pa : Nat} : (hIB E ad rl o h e p pa)[10]? = some (ad 20, .inl (E.2.1, 24, .inl (o 20))) := rfl
theorem hIB_A20 {E : Ev} {ad : Nat → Nat} {rl : Nat} {o : Mem} {h : Mem} {e : Mem} {p : Mem} {pa : Nat} {f : Nat → Int32} : (hIB E ad rl o h e p pa).set 10 (ad 20, .inl (E.2.1, 24, .inl f)) = hIB E ad rl (upA o 20 f) h e p pa := rfl
theorem hIB_s20 {E : Ev} {ad : Nat → Nat} {rl : Nat} {o : Mem} {h : Mem} {e : Mem} {p : Mem} {pa : Nat} {i : Nat} {v : Int32} : (hIB E ad rl o h e p pa).set 10 (ad 20, .inl (E.2.1, 24, .inl (upd (o 20) i v))) = hIB E ad rl (up o 20 i v) h e p pa := rfl
theorem hIB_a21 {E : Ev} {ad : Nat → Nat} {rl : Nat} {o : Mem} {h : Mem} {e : Mem} {p : Mem} {pa : Nat} : (hIB E ad rl o h e p pa)[11]? = some (ad 21, .inl (E.2.1, 24, .inl (o 21))) := rfl
theorem hIB_A21 {E : Ev} {ad : Nat → Nat} {rl : Nat} {o : Mem} {h : Mem} {e : Mem} {p : Mem} {pa : Nat} {f : Nat → Int32} : (hIB E ad rl o h e p pa).set 11 (ad 21, .inl (E.2.1, 24, .inl f)) = hIB E ad rl (upA o 21 f) h e p pa := rfl
theorem hIB_s21 {E : Ev} {ad : Nat → Nat} {rl : Nat} {o : Mem} {h : Mem} {e : Mem} {p : Mem} {pa : Nat} {i : Nat} {v : Int32} : (hIB E ad rl o h e p pa).set 11 (ad 21, .inl (E.2.1, 24, .inl (upd (o 21) i v))) = hIB E ad rl (up o 21 i v) h e p pa := rfl
theorem hIB_a22 {E : Ev} {ad : Nat → Nat} {rl : Nat} {o : Mem} {h : Mem} {e : Mem} {p : Mem} {pa : Nat} : (hIB E ad rl o h e p pa)[12]? = some (ad 22, .inl (E.2.1, 25, .inl (o 22))) := rfl
theorem hIB_A22 {E : Ev} {ad : Nat → Nat} {rl : Nat} {o : Mem} {h : Mem} {e : Mem} {p : Mem} {pa : Nat} {f : Nat → Int32} : (hIB E ad rl o h e p pa).set 12 (ad 22, .inl (E.2.1, 25, .inl f)) = hIB E ad rl (upA o 22 f) h e p pa := rfl
theorem hIB_s22 {E : Ev} {ad : Nat → Nat} {rl : Nat} {o : Mem} {h : Mem} {e : Mem} {p : Mem} {pa : Nat} {i : Nat} {v : Int32} : (hIB E ad rl o h e p pa).set 12 (ad 22, .inl (E.2.1, 25, .inl (upd (o 22) i v))) = hIB E ad rl (up o 22 i v) h e p pa := rfl
theorem hIB_a23 {E : Ev} {ad : Nat → Nat} {rl : Nat} {o : Mem} {h : Mem} {e : Mem} {p : Mem} {pa : Nat} : (hIB E ad rl o h e p pa)[13]? = some (ad 23, .inl (E.2.1, 25, .inl (o 23))) := rfl
theorem hIB_A23 {E : Ev} {ad : Nat → Nat} {rl : Nat} {o : Mem} {h : Mem} {e : Mem} {p : Mem} {pa : Nat} {f : Nat → Int32} : (hIB E ad rl o h e p pa).set 13 (ad 23, .inl (E.2.1, 25, .inl f)) = hIB E ad rl (upA o 23 f) h e p pa := rfl
theorem hIB_s23 {E : Ev} {ad : Nat → Nat} {rl : Nat} {o : Mem} {h : Mem} {e : Mem} {p : Mem} {pa : Nat} {i : Nat} {v : Int32} : (hIB E ad rl o h e p pa).set 13 (ad 23, .inl (E.2.1, 25, .inl (upd (o 23) i v))) = hIB E ad rl (up o 23 i v) h e p pa := rfl
theorem hIB_a24 {E : Ev} {ad : Nat → Nat} {rl : Nat} {o : Mem} {h : Mem} {e : Mem} {p : Mem} {pa : Nat} : (hIB E ad rl o h e p pa)[14]? = some (ad 24, .inl (E.2.1, 25, .inl (o 24))) := rfl
theorem hIB_A24 {E : Ev} {ad : Nat → Nat} {rl : Nat} {o : Mem} {h : Mem} {e : Mem} {p : Mem} {pa : Nat} {f : Nat → Int32} : (hIB E ad rl o h e p pa).set 14 (ad 24, .inl (E.2.1, 25, .inl f)) = hIB E ad rl (upA o 24 f) h e p pa := rfl
theorem hIB_s24 {E : Ev} {ad : Nat → Nat} {rl : Nat} {o : Mem} {h : Mem} {e : Mem} {p : Mem} {pa : Nat} {i : Nat} {v : Int32} : (hIB E ad rl o h e p pa).set 14 (ad 24, .inl (E.2.1, 25, .inl (upd (o 24) i v))) = hIB E ad rl (up o 24 i v) h e p pa := rfl
theorem hIB_o6 {E : Ev} {ad : Nat → Nat} {rl : Nat} {o : Mem} {h : Mem} {e : Mem} {p : Mem} {pa : Nat} : (hIB E ad rl o h e p pa)[15]? = some (ad 6, .inr (4, hIB_f6 ad p)) := rfl
theorem hIB_p6_11 {E : Ev} {ad : Nat → Nat} {rl : Nat} {o : Mem} {h : Mem} {e : Mem} {p : Mem} {pa : Nat} {v : Int32} : (hIB E ad rl o h e p pa).set 15 (ad 6, .inr (4, (hIB_f6 ad p).set 11 (.int v))) = hIB E ad rl o h e (up p 6 11 v) pa := rfl
theorem hIB_p6_12 {E : Ev} {ad : Nat → Nat} {rl : Nat} {o : Mem} {h : Mem} {e : Mem} {p : Mem} {pa : Nat} {v : Int32} : (hIB E ad rl o h e p pa).set 15 (ad 6, .inr (4, (hIB_f6 ad p).set 12 (.int v))) = hIB E ad rl o h e (up p 6 12 v) pa := rfl
theorem hIB_p6_13 {E : Ev} {ad : Nat → Nat} {rl : Nat} {o : Mem} {h : Mem} {e : Mem} {p : Mem} {pa : Nat} {v : Int32} : (hIB E ad rl o h e p pa).set 15 (ad 6, .inr (4, (hIB_f6 ad p).set 13 (.int v))) = hIB E ad rl o h e (up p 6 13 v) pa := rfl
theorem hIB_p6_14 {E : Ev} {ad : Nat → Nat} {rl : Nat} {o : Mem} {h : Mem} {e : Mem} {p : Mem} {pa : Nat} {v : Int32} : (hIB E ad rl o h e p pa).set 15 (ad 6, .inr (4, (hIB_f6 ad p).set 14 (.int v))) = hIB E ad rl o h e (up p 6 14 v) pa := rfl
theorem hIB_p6_15 {E : Ev} {ad : Nat → Nat} {rl : Nat} {o : Mem} {h : Mem} {e : Mem} {p : Mem} {pa : Nat} {v : Int32} : (hIB E ad rl o h e p pa).set 15 (ad 6, .inr (4, (hIB_f6 ad p).set 15 (.int v))) = hIB E ad rl o h e (up p 6 15 v) pa := rfl
theorem hIB_a7 {E : Ev} {ad : Nat → Nat} {rl : Nat} {o : Mem} {h : Mem} {e : Mem} {p : Mem} {pa : Nat} : (hIB E ad rl o h e p pa)[16]? = some (ad 7, .inl (E.2.1, 24, .inl (p 7))) := rfl
theorem hIB_A7 {E : Ev} {ad : Nat → Nat} {rl : Nat} {o : Mem} {h : Mem} {e : Mem} {p : Mem} {pa : Nat} {f : Nat → Int32} : (hIB E ad rl o h e p pa).set 16 (ad 7, .inl (E.2.1, 24, .inl f)) = hIB E ad rl o h e (upA p 7 f) pa := rfl
theorem hIB_s7 {E : Ev} {ad : Nat → Nat} {rl : Nat} {o : Mem} {h : Mem} {e : Mem} {p : Mem} {pa : Nat} {i : Nat} {v : Int32} : (hIB E ad rl o h e p pa).set 16 (ad 7, .inl (E.2.1, 24, .inl (upd (p 7) i v))) = hIB E ad rl o h e (up p 7 i v) pa := rfl
theorem hIB_a8 {E : Ev} {ad : Nat → Nat} {rl : Nat} {o : Mem} {h : Mem} {e : Mem} {p : Mem} {pa : Nat} : (hIB E ad rl o h e p pa)[17]? = some (ad 8, .inl (E.2.1, 24, .inl (p 8))) := rfl
theorem hIB_A8 {E : Ev} {ad : Nat → Nat} {rl : Nat} {o : Mem} {h : Mem} {e : Mem} {p : Mem} {pa : Nat} {f : Nat → Int32} : (hIB E ad rl o h e p pa).set 17 (ad 8, .inl (E.2.1, 24, .inl f)) = hIB E ad rl o h e (upA p 8 f) pa := rfl
theorem hIB_s8 {E : Ev} {ad : Nat → Nat} {rl : Nat} {o : Mem} {h : Mem} {e : Mem} {p : Mem} {pa : Nat} {i : Nat} {v : Int32} : (hIB E ad rl o h e p pa).set 17 (ad 8, .inl (E.2.1, 24, .inl (upd (p 8) i v))) = hIB E ad rl o h e (up p 8 i v) pa := rfl
theorem hIB_a9 {E : Ev} {ad : Nat → Nat} {rl : Nat} {o : Mem} {h : Mem} {e : Mem} {p : Mem} {pa : Nat} : (hIB E ad rl o h e p pa)[18]? = some (ad 9, .inl (E.2.1, 24, .inl (p 9))) := rfl
theorem hIB_A9 {E : Ev} {ad : Nat → Nat} {rl : Nat} {o : Mem} {h : Mem} {e : Mem} {p : Mem} {pa : Nat} {f : Nat → Int32} : (hIB E ad rl o h e p pa).set 18 (ad 9, .inl (E.2.1, 24, .inl f)) = hIB E ad rl o h e (upA p 9 f) pa := rfl
theorem hIB_s9 {E : Ev} {ad : Nat → Nat} {rl : Nat} {o : Mem} {h : Mem} {e : Mem} {p : Mem} {pa : Nat} {i : Nat} {v : Int32} : (hIB E ad rl o h e p pa).set 18 (ad 9, .inl (E.2.1, 24, .inl (upd (p 9) i v))) = hIB E ad rl o h e (up p 9 i v) pa := rfl
theorem hIB_a10 {E : Ev} {ad : Nat → Nat} {rl : Nat} {o : Mem} {h : Mem} {e : Mem} {p : Mem} {pa : Nat} : (hIB E ad rl o h e p pa)[19]? = some (ad 10, .inl (E.2.1, 24, .inl (p 10))) := rfl
theorem hIB_A10 {E : Ev} {ad : Nat → Nat} {rl : Nat} {o : Mem} {h : Mem} {e : Mem} {p : Mem} {pa : Nat} {f : Nat → Int32} : (hIB E ad rl o h e p pa).set 19 (ad 10, .inl (E.2.1, 24, .inl f)) = hIB E ad rl o h e (upA p 10 f) pa := rfl
theorem hIB_s10 {E : Ev} {ad : Nat → Nat} {rl : Nat} {o : Mem} {h : Mem} {e : Mem} {p : Mem} {pa : Nat} {i : Nat} {v : Int32} : (hIB E ad rl o h e p pa).set 19 (ad 10, .inl (E.2.1, 24, .inl (upd (p 10) i v))) = hIB E ad rl o h e (up p 10 i v) pa := rfl
theorem hIB_a11 {E : Ev} {ad : Nat → Nat} {rl : Nat} {o : Mem} {h : Mem} {e : Mem} {p : Mem} {pa : Nat} : (hIB E ad rl o h e p pa)[20]? = some (ad 11, .inl (E.2.1, 24, .inl (p 11))) := rfl
theorem hIB_A11 {E : Ev} {ad : Nat → Nat} {rl : Nat} {o : Mem} {h : Mem} {e : Mem} {p : Mem} {pa : Nat} {f : Nat → Int32} : (hIB E ad rl o h e p pa).set 20 (ad 11, .inl (E.2.1, 24, .inl f)) = hIB E ad rl o h e (upA p 11 f) pa := rfl
theorem hIB_s11 {E : Ev} {ad : Nat → Nat} {rl : Nat} {o : Mem} {h : Mem} {e : Mem} {p : Mem} {pa : Nat} {i : Nat} {v : Int32} : (hIB E ad rl o h e p pa).set 20 (ad 11, .inl (E.2.1, 24, .inl (upd (p 11) i v))) = hIB E ad rl o h e (up p 11 i v) pa := rfl
theorem hIB_a12 {E : Ev} {ad : Nat → Nat} {rl : Nat} {o : Mem} {h : Mem} {e : Mem} {p : Mem} {pa : Nat} : (hIB E ad rl o h e p pa)[21]? = some (ad 12, .inl (E.2.1, 24, .inl (p 12))) := rfl
theorem hIB_A12 {E : Ev} {ad : Nat → Nat} {rl : Nat} {o : Mem} {h : Mem} {e : Mem} {p : Mem} {pa : Nat} {f : Nat → Int32} : (hIB E ad rl o h e p pa).set 21 (ad 12, .inl (E.2.1, 24, .inl f)) = hIB E ad rl o h e (upA p 12 f) pa := rfl
theorem hIB_s12 {E : Ev} {ad : Nat → Nat} {rl : Nat} {o : Mem} {h : Mem} {e : Mem} {p : Mem} {pa : Nat} {i : Nat} {v : Int32} : (hIB E ad rl o h e p pa).set 21 (ad 12, .inl (E.2.1, 24, .inl (upd (p 12) i v))) = hIB E ad rl o h e (up p 12 i v) pa := rfl
theorem hIB_a13 {E : Ev} {ad : Nat → Nat} {rl : Nat} {o : Mem} {h : Mem} {e : Mem} {p : Mem} {pa : Nat} : (hIB E ad rl o h e p pa)[22]? = some (ad 13, .inl (E.2.1, 24, .inl (p 13))) := rfl
theorem hIB_A13 {E : Ev} {ad : Nat → Nat} {rl : Nat} {o : Mem} {h : Mem} {e : Mem} {p : Mem} {pa : Nat} {f : Nat → Int32} : (hIB E ad rl o h e p pa).set 22 (ad 13, .inl (E.2.1, 24, .inl f)) = hIB E ad rl o h e (upA p 13 f) pa := rfl
theorem hIB_s13 {E : Ev} {ad : Nat → Nat} {rl : Nat} {o : Mem} {h : Mem} {e : Mem} {p : Mem} {pa : Nat} {i : Nat} {v : Int32} : (hIB E ad rl o h e p pa).set 22 (ad 13, .inl (E.2.1, 24, .inl (upd (p 13) i v))) = hIB E ad rl o h e (up p 13 i v) pa := rfl
theorem hIB_a14 {E : Ev} {ad : Nat → Nat} {rl : Nat} {o : Mem} {h : Mem} {e : Mem} {p : Mem} {pa : Nat} : (hIB E ad rl o h e p pa)[23]? = some (ad 14, .inl (E.2.1, 24, .inl (p 14))) := rfl
theorem hIB_A14 {E : Ev} {ad : Nat → Nat} {rl : Nat} {o : Mem} {h : Mem} {e : Mem} {p : Mem} {pa : Nat} {f : Nat → Int32} : (hIB E ad rl o h e p pa).set 23 (ad 14, .inl (E.2.1, 24, .inl f)) = hIB E ad rl o h e (upA p 14 f) pa := rfl
theorem hIB_s14 {E : Ev} {ad : Nat → Nat} {rl : Nat} {o : Mem} {h : Mem} {e : Mem} {p : Mem} {pa : Nat} {i : Nat} {v : Int32} : (hIB E ad rl o h e p pa).set 23 (ad 14, .inl (E.2.1, 24, .inl (upd (p 14) i v))) = hIB E ad rl o h e (up p 14 i v) pa := rfl
theorem hIB_a15 {E : Ev} {ad : Nat → Nat} {rl : Nat} {o : Mem} {h : Mem} {e : Mem} {p : Mem} {pa : Nat} : (hIB E ad rl o h e p pa)[24]? = some (ad 15, .inl (E.2.1, 96, .inl (p 15))) := rfl
theorem hIB_A15 {E : Ev} {ad : Nat → Nat} {rl : Nat} {o : Mem} {h : Mem} {e : Mem} {p : Mem} {pa : Nat} {f : Nat → Int32} : (hIB E ad rl o h e p pa).set 24 (ad 15, .inl (E.2.1, 96, .inl f)) = hIB E ad rl o h e (upA p 15 f) pa := rfl
theorem hIB_s15 {E : Ev} {ad : Nat → Nat} {rl : Nat} {o : Mem} {h : Mem} {e : Mem} {p : Mem} {pa : Nat} {i : Nat} {v : Int32} : (hIB E ad rl o h e p pa).set 24 (ad 15, .inl (E.2.1, 96, .inl (upd (p 15) i v))) = hIB E ad rl o h e (up p 15 i v) pa := rfl
def hR0_f0 (ad : Nat → Nat) (r : Mem) (vt : Value) (vu : Value) : List Value := [.ref (ad 1), vt, .int (r 0 2), vu, .int (r 0 4), .int (r 0 5)]
def hR0_f6 (ad : Nat → Nat) (p : Mem)  : List Value := [.int (p 6 0), .int (p 6 1), .ref (ad 7), .ref (ad 8), .ref (ad 9), .ref (ad 10), .ref (ad 11), .ref (ad 12), .ref (ad 13), .ref (ad 14), .ref (ad 15), .int (p 6 11), .int (p 6 12), .int (p 6 13), .int (p 6 14), .int (p 6 15)]
def hR0 (E : Ev) (ad : Nat → Nat)  (r : Mem) (t : Mem) (p : Mem) (vt : Value) (vu : Value) : va_W := [(ad 0, .inr (3, hR0_f0 ad r vt vu)), (ad 1, .inl (E.2.1, 24, .inl (r 1))), (ad 2, .inl (E.2.1, 80, .inl (t 2))), (ad 6, .inr (4, hR0_f6 ad p)), (ad 7, .inl (E.2.1, 24, .inl (p 7))), (ad 8, .inl (E.2.1, 24, .inl (p 8))), (ad 9, .inl (E.2.1, 24, .inl (p 9))), (ad 10, .inl (E.2.1, 24, .inl (p 10))), (ad 11, .inl (E.2.1, 24, .inl (p 11))), (ad 12, .inl (E.2.1, 24, .inl (p 12))), (ad 13, .inl (E.2.1, 24, .inl (p 13))), (ad 14, .inl (E.2.1, 24, .inl (p 14))), (ad 15, .inl (E.2.1, 96, .inl (p 15)))]
theorem hR0_o0 {E : Ev} {ad : Nat → Nat}  {r : Mem} {t : Mem} {p : Mem} {vt : Value} {vu : Value} : (hR0 E ad r t p vt vu)[0]? = some (ad 0, .inr (3, hR0_f0 ad r vt vu)) := rfl
theorem hR0_p0_2 {E : Ev} {ad : Nat → Nat}  {r : Mem} {t : Mem} {p : Mem} {vt : Value} {vu : Value} {v : Int32} : (hR0 E ad r t p vt vu).set 0 (ad 0, .inr (3, (hR0_f0 ad r vt vu).set 2 (.int v))) = hR0 E ad (up r 0 2 v) t p vt vu := rfl
theorem hR0_p0_4 {E : Ev} {ad : Nat → Nat}  {r : Mem} {t : Mem} {p : Mem} {vt : Value} {vu : Value} {v : Int32} : (hR0 E ad r t p vt vu).set 0 (ad 0, .inr (3, (hR0_f0 ad r vt vu).set 4 (.int v))) = hR0 E ad (up r 0 4 v) t p vt vu := rfl
theorem hR0_p0_5 {E : Ev} {ad : Nat → Nat}  {r : Mem} {t : Mem} {p : Mem} {vt : Value} {vu : Value} {v : Int32} : (hR0 E ad r t p vt vu).set 0 (ad 0, .inr (3, (hR0_f0 ad r vt vu).set 5 (.int v))) = hR0 E ad (up r 0 5 v) t p vt vu := rfl
theorem hR0_a1 {E : Ev} {ad : Nat → Nat}  {r : Mem} {t : Mem} {p : Mem} {vt : Value} {vu : Value} : (hR0 E ad r t p vt vu)[1]? = some (ad 1, .inl (E.2.1, 24, .inl (r 1))) := rfl
theorem hR0_A1 {E : Ev} {ad : Nat → Nat}  {r : Mem} {t : Mem} {p : Mem} {vt : Value} {vu : Value} {f : Nat → Int32} : (hR0 E ad r t p vt vu).set 1 (ad 1, .inl (E.2.1, 24, .inl f)) = hR0 E ad (upA r 1 f) t p vt vu := rfl
theorem hR0_s1 {E : Ev} {ad : Nat → Nat}  {r : Mem} {t : Mem} {p : Mem} {vt : Value} {vu : Value} {i : Nat} {v : Int32} : (hR0 E ad r t p vt vu).set 1 (ad 1, .inl (E.2.1, 24, .inl (upd (r 1) i v))) = hR0 E ad (up r 1 i v) t p vt vu := rfl
theorem hR0_a2 {E : Ev} {ad : Nat → Nat}  {r : Mem} {t : Mem} {p : Mem} {vt : Value} {vu : Value} : (hR0 E ad r t p vt vu)[2]? = some (ad 2, .inl (E.2.1, 80, .inl (t 2))) := rfl
theorem hR0_A2 {E : Ev} {ad : Nat → Nat}  {r : Mem} {t : Mem} {p : Mem} {vt : Value} {vu : Value} {f : Nat → Int32} : (hR0 E ad r t p vt vu).set 2 (ad 2, .inl (E.2.1, 80, .inl f)) = hR0 E ad r (upA t 2 f) p vt vu := rfl
theorem hR0_s2 {E : Ev} {ad : Nat → Nat}  {r : Mem} {t : Mem} {p : Mem} {vt : Value} {vu : Value} {i : Nat} {v : Int32} : (hR0 E ad r t p vt vu).set 2 (ad 2, .inl (E.2.1, 80, .inl (upd (t 2) i v))) = hR0 E ad r (up t 2 i v) p vt vu := rfl
theorem hR0_o6 {E : Ev} {ad : Nat → Nat}  {r : Mem} {t : Mem} {p : Mem} {vt : Value} {vu : Value} : (hR0 E ad r t p vt vu)[3]? = some (ad 6, .inr (4, hR0_f6 ad p)) := rfl
theorem hR0_p6_11 {E : Ev} {ad : Nat → Nat}  {r : Mem} {t : Mem} {p : Mem} {vt : Value} {vu : Value} {v : Int32} : (hR0 E ad r t p vt vu).set 3 (ad 6, .inr (4, (hR0_f6 ad p).set 11 (.int v))) = hR0 E ad r t (up p 6 11 v) vt vu := rfl
theorem hR0_p6_12 {E : Ev} {ad : Nat → Nat}  {r : Mem} {t : Mem} {p : Mem} {vt : Value} {vu : Value} {v : Int32} : (hR0 E ad r t p vt vu).set 3 (ad 6, .inr (4, (hR0_f6 ad p).set 12 (.int v))) = hR0 E ad r t (up p 6 12 v) vt vu := rfl
theorem hR0_p6_13 {E : Ev} {ad : Nat → Nat}  {r : Mem} {t : Mem} {p : Mem} {vt : Value} {vu : Value} {v : Int32} : (hR0 E ad r t p vt vu).set 3 (ad 6, .inr (4, (hR0_f6 ad p).set 13 (.int v))) = hR0 E ad r t (up p 6 13 v) vt vu := rfl
theorem hR0_p6_14 {E : Ev} {ad : Nat → Nat}  {r : Mem} {t : Mem} {p : Mem} {vt : Value} {vu : Value} {v : Int32} : (hR0 E ad r t p vt vu).set 3 (ad 6, .inr (4, (hR0_f6 ad p).set 14 (.int v))) = hR0 E ad r t (up p 6 14 v) vt vu := rfl
theorem hR0_p6_15 {E : Ev} {ad : Nat → Nat}  {r : Mem} {t : Mem} {p : Mem} {vt : Value} {vu : Value} {v : Int32} : (hR0 E ad r t p vt vu).set 3 (ad 6, .inr (4, (hR0_f6 ad p).set 15 (.int v))) = hR0 E ad r t (up p 6 15 v) vt vu := rfl
theorem hR0_a7 {E : Ev} {ad : Nat → Nat}  {r : Mem} {t : Mem} {p : Mem} {vt : Value} {vu : Value} : (hR0 E ad r t p vt vu)[4]? = some (ad 7, .inl (E.2.1, 24, .inl (p 7))) := rfl
theorem hR0_A7 {E : Ev} {ad : Nat → Nat}  {r : Mem} {t : Mem} {p : Mem} {vt : Value} {vu : Value} {f : Nat → Int32} : (hR0 E ad r t p vt vu).set 4 (ad 7, .inl (E.2.1, 24, .inl f)) = hR0 E ad r t (upA p 7 f) vt vu := rfl
theorem hR0_s7 {E : Ev} {ad : Nat → Nat}  {r : Mem} {t : Mem} {p : Mem} {vt : Value} {vu : Value} {i : Nat} {v : Int32} : (hR0 E ad r t p vt vu).set 4 (ad 7, .inl (E.2.1, 24, .inl (upd (p 7) i v))) = hR0 E ad r t (up p 7 i v) vt vu := rfl
theorem hR0_a8 {E : Ev} {ad : Nat → Nat}  {r : Mem} {t : Mem} {p : Mem} {vt : Value} {vu : Value} : (hR0 E ad r t p vt vu)[5]? = some (ad 8, .inl (E.2.1, 24, .inl (p 8))) := rfl
theorem hR0_A8 {E : Ev} {ad : Nat → Nat}  {r : Mem} {t : Mem} {p : Mem} {vt : Value} {vu : Value} {f : Nat → Int32} : (hR0 E ad r t p vt vu).set 5 (ad 8, .inl (E.2.1, 24, .inl f)) = hR0 E ad r t (upA p 8 f) vt vu := rfl
theorem hR0_s8 {E : Ev} {ad : Nat → Nat}  {r : Mem} {t : Mem} {p : Mem} {vt : Value} {vu : Value} {i : Nat} {v : Int32} : (hR0 E ad r t p vt vu).set 5 (ad 8, .inl (E.2.1, 24, .inl (upd (p 8) i v))) = hR0 E ad r t (up p 8 i v) vt vu := rfl
theorem hR0_a9 {E : Ev} {ad : Nat → Nat}  {r : Mem} {t : Mem} {p : Mem} {vt : Value} {vu : Value} : (hR0 E ad r t p vt vu)[6]? = some (ad 9, .inl (E.2.1, 24, .inl (p 9))) := rfl
theorem hR0_A9 {E : Ev} {ad : Nat → Nat}  {r : Mem} {t : Mem} {p : Mem} {vt : Value} {vu : Value} {f : Nat → Int32} : (hR0 E ad r t p vt vu).set 6 (ad 9, .inl (E.2.1, 24, .inl f)) = hR0 E ad r t (upA p 9 f) vt vu := rfl
theorem hR0_s9 {E : Ev} {ad : Nat → Nat}  {r : Mem} {t : Mem} {p : Mem} {vt : Value} {vu : Value} {i : Nat} {v : Int32} : (hR0 E ad r t p vt vu).set 6 (ad 9, .inl (E.2.1, 24, .inl (upd (p 9) i v))) = hR0 E ad r t (up p 9 i v) vt vu := rfl
theorem hR0_a10 {E : Ev} {ad : Nat → Nat}  {r : Mem} {t : Mem} {p : Mem} {vt : Value} {vu : Value} : (hR0 E ad r t p vt vu)[7]? = some (ad 10, .inl (E.2.1, 24, .inl (p 10))) := rfl
theorem hR0_A10 {E : Ev} {ad : Nat → Nat}  {r : Mem} {t : Mem} {p : Mem} {vt : Value} {vu : Value} {f : Nat → Int32} : (hR0 E ad r t p vt vu).set 7 (ad 10, .inl (E.2.1, 24, .inl f)) = hR0 E ad r t (upA p 10 f) vt vu := rfl
theorem hR0_s10 {E : Ev} {ad : Nat → Nat}  {r : Mem} {t : Mem} {p : Mem} {vt : Value} {vu : Value} {i : Nat} {v : Int32} : (hR0 E ad r t p vt vu).set 7 (ad 10, .inl (E.2.1, 24, .inl (upd (p 10) i v))) = hR0 E ad r t (up p 10 i v) vt vu := rfl
theorem hR0_a11 {E : Ev} {ad : Nat → Nat}  {r : Mem} {t : Mem} {p : Mem} {vt : Value} {vu : Value} : (hR0 E ad r t p vt vu)[8]? = some (ad 11, .inl (E.2.1, 24, .inl (p 11))) := rfl
theorem hR0_A11 {E : Ev} {ad : Nat → Nat}  {r : Mem} {t : Mem} {p : Mem} {vt : Value} {vu : Value} {f : Nat → Int32} : (hR0 E ad r t p vt vu).set 8 (ad 11, .inl (E.2.1, 24, .inl f)) = hR0 E ad r t (upA p 11 f) vt vu := rfl
theorem hR0_s11 {E : Ev} {ad : Nat → Nat}  {r : Mem} {t : Mem} {p : Mem} {vt : Value} {vu : Value} {i : Nat} {v : Int32} : (hR0 E ad r t p vt vu).set 8 (ad 11, .inl (E.2.1, 24, .inl (upd (p 11) i v))) = hR0 E ad r t (up p 11 i v) vt vu := rfl
theorem hR0_a12 {E : Ev} {ad : Nat → Nat}  {r : Mem} {t : Mem} {p : Mem} {vt : Value} {vu : Value} : (hR0 E ad r t p vt vu)[9]? = some (ad 12, .inl (E.2.1, 24, .inl (p 12))) := rfl
theorem hR0_A12 {E : Ev} {ad : Nat → Nat}  {r : Mem} {t : Mem} {p : Mem} {vt : Value} {vu : Value} {f : Nat → Int32} : (hR0 E ad r t p vt vu).set 9 (ad 12, .inl (E.2.1, 24, .inl f)) = hR0 E ad r t (upA p 12 f) vt vu := rfl
theorem hR0_s12 {E : Ev} {ad : Nat → Nat}  {r : Mem} {t : Mem} {p : Mem} {vt : Value} {vu : Value} {i : Nat} {v : Int32} : (hR0 E ad r t p vt vu).set 9 (ad 12, .inl (E.2.1, 24, .inl (upd (p 12) i v))) = hR0 E ad r t (up p 12 i v) vt vu := rfl
theorem hR0_a13 {E : Ev} {ad : Nat → Nat}  {r : Mem} {t : Mem} {p : Mem} {vt : Value} {vu : Value} : (hR0 E ad r t p vt vu)[10]? = some (ad 13, .inl (E.2.1, 24, .inl (p 13))) := rfl
theorem hR0_A13 {E : Ev} {ad : Nat → Nat}  {r : Mem} {t : Mem} {p : Mem} {vt : Value} {vu : Value} {f : Nat → Int32} : (hR0 E ad r t p vt vu).set 10 (ad 13, .inl (E.2.1, 24, .inl f)) = hR0 E ad r t (upA p 13 f) vt vu := rfl
theorem hR0_s13 {E : Ev} {ad : Nat → Nat}  {r : Mem} {t : Mem} {p : Mem} {vt : Value} {vu : Value} {i : Nat} {v : Int32} : (hR0 E ad r t p vt vu).set 10 (ad 13, .inl (E.2.1, 24, .inl (upd (p 13) i v))) = hR0 E ad r t (up p 13 i v) vt vu := rfl
theorem hR0_a14 {E : Ev} {ad : Nat → Nat}  {r : Mem} {t : Mem} {p : Mem} {vt : Value} {vu : Value} : (hR0 E ad r t p vt vu)[11]? = some (ad 14, .inl (E.2.1, 24, .inl (p 14))) := rfl
theorem hR0_A14 {E : Ev} {ad : Nat → Nat}  {r : Mem} {t : Mem} {p : Mem} {vt : Value} {vu : Value} {f : Nat → Int32} : (hR0 E ad r t p vt vu).set 11 (ad 14, .inl (E.2.1, 24, .inl f)) = hR0 E ad r t (upA p 14 f) vt vu := rfl
theorem hR0_s14 {E : Ev} {ad : Nat → Nat}  {r : Mem} {t : Mem} {p : Mem} {vt : Value} {vu : Value} {i : Nat} {v : Int32} : (hR0 E ad r t p vt vu).set 11 (ad 14, .inl (E.2.1, 24, .inl (upd (p 14) i v))) = hR0 E ad r t (up p 14 i v) vt vu := rfl
theorem hR0_a15 {E : Ev} {ad : Nat → Nat}  {r : Mem} {t : Mem} {p : Mem} {vt : Value} {vu : Value} : (hR0 E ad r t p vt vu)[12]? = some (ad 15, .inl (E.2.1, 96, .inl (p 15))) := rfl
theorem hR0_A15 {E : Ev} {ad : Nat → Nat}  {r : Mem} {t : Mem} {p : Mem} {vt : Value} {vu : Value} {f : Nat → Int32} : (hR0 E ad r t p vt vu).set 12 (ad 15, .inl (E.2.1, 96, .inl f)) = hR0 E ad r t (upA p 15 f) vt vu := rfl
theorem hR0_s15 {E : Ev} {ad : Nat → Nat}  {r : Mem} {t : Mem} {p : Mem} {vt : Value} {vu : Value} {i : Nat} {v : Int32} : (hR0 E ad r t p vt vu).set 12 (ad 15, .inl (E.2.1, 96, .inl (upd (p 15) i v))) = hR0 E ad r t (up p 15 i v) vt vu := rfl
theorem mm_X1_copy : Cond.instanceMethod yX1_copy ∈ WS ∧ Cond.selects (yX1_copy).cls yX1_copy yX1_copy ∈ WS ∧ Cond.initialized (yX1_copy).cls ∈ WS ∧ Cond.code yX1_copy cX1_copy 2 none ∈ WS ∧ ((yX1_copy).cls ≠ "java/lang/invoke/MethodHandle" ∧ (yX1_copy).cls ≠ "java/lang/invoke/VarHandle") ∧ (parseMethodDescriptor (yX1_copy).desc).map (fun d => d.parameters.length) = some 1 ∧ 2 ≤ 20 := ⟨ws_in (List.mem_of_getElem? (i := 772) (by decide +kernel)) rfl, ws_in (List.mem_of_getElem? (i := 773) (by decide +kernel)) rfl, ws_in (List.mem_of_getElem? (i := 108) (by decide +kernel)) rfl, ws_in (List.mem_of_getElem? (i := 774) (by decide +kernel)) rfl, ⟨by decide +kernel, by decide +kernel⟩, by decide +kernel, by decide⟩
theorem lk_X2_75 : LkV RX2 75 yX1_copy cX1_copy 2 none 1 := ⟨ws_in (List.mem_of_getElem? (i := 771) (by decide +kernel)) rfl, mm_X1_copy⟩
theorem mm_X4_clear : Cond.instanceMethod yX4_clear ∈ WS ∧ Cond.selects (yX4_clear).cls yX4_clear yX4_clear ∈ WS ∧ Cond.initialized (yX4_clear).cls ∈ WS ∧ Cond.code yX4_clear cX4_clear 2 none ∈ WS ∧ ((yX4_clear).cls ≠ "java/lang/invoke/MethodHandle" ∧ (yX4_clear).cls ≠ "java/lang/invoke/VarHandle") ∧ (parseMethodDescriptor (yX4_clear).desc).map (fun d => d.parameters.length) = some 1 ∧ 2 ≤ 20 := ⟨ws_in (List.mem_of_getElem? (i := 423) (by decide +kernel)) rfl, ws_in (List.mem_of_getElem? (i := 424) (by decide +kernel)) rfl, ws_in (List.mem_of_getElem? (i := 103) (by decide +kernel)) rfl, ws_in (List.mem_of_getElem? (i := 425) (by decide +kernel)) rfl, ⟨by decide +kernel, by decide +kernel⟩, by decide +kernel, by decide⟩
theorem lk_X3_38 : LkV RX3 38 yX4_clear cX4_clear 2 none 1 := ⟨ws_in (List.mem_of_getElem? (i := 422) (by decide +kernel)) rfl, mm_X4_clear⟩
theorem f_X2_60 : FL RX2 60 2 4 := ⟨RX2, TX2, 18, rfl, by decide, wsin_X2, ws_in (List.mem_of_getElem? (i := 298) (by decide +kernel)) rfl⟩
theorem f_X2_63 : FL RX2 63 2 5 := ⟨RX2, TX2, 18, rfl, by decide, wsin_X2, ws_in (List.mem_of_getElem? (i := 301) (by decide +kernel)) rfl⟩
theorem mw_X3_18 : Cond.methodLink RX3 18 Lib.Math.min.name ∈ WS ∧ Cond.static Lib.Math.min.name ∈ WS ∧ Cond.initialized "java/lang/Math" ∈ WS ∧ Cond.code Lib.Math.min.name Lib.Math.min.code 2 (some .int) ∈ WS := ⟨ws_in (List.mem_of_getElem? (i := 419) (by decide +kernel)) rfl, ws_in (List.mem_of_getElem? (i := 420) (by decide +kernel)) rfl, ws_in (List.mem_of_getElem? (i := 109) (by decide +kernel)) rfl, ws_in (List.mem_of_getElem? (i := 421) (by decide +kernel)) rfl⟩
theorem fp_X0_24 : FLp RX0 24 0 2 .int := ⟨RX0, TX0, 3, tyX0, rfl, by decide, wsin_X0, ws_in (List.mem_of_getElem? (i := 245) (by decide +kernel)) rfl, tyX0_ok, nmX0, rfl, rfl⟩
theorem fp_X2_47 : FLp RX2 47 2 2 (.object "WorkflowEngine$Version") := ⟨RX2, TX2, 18, tyX2, rfl, by decide, wsin_X2, ws_in (List.mem_of_getElem? (i := 292) (by decide +kernel)) rfl, tyX2_ok, nmX2, rfl, rfl⟩
theorem fp_X2_60 : FLp RX2 60 2 4 .int := ⟨RX2, TX2, 18, tyX2, rfl, by decide, wsin_X2, ws_in (List.mem_of_getElem? (i := 298) (by decide +kernel)) rfl, tyX2_ok, nmX2, rfl, rfl⟩
theorem fp_X2_88 : FLp RX2 88 1 2 .int := ⟨RX1, TX1, 3, tyX1, rfl, by decide, wsin_X1, ws_in (List.mem_of_getElem? (i := 280) (by decide +kernel)) rfl, tyX1_ok, nmX1, rfl, rfl⟩
theorem fp_X3_15 : FLp RX3 15 3 1 (.array .int) := ⟨RX3, TX3, 6, tyX3, rfl, by decide, wsin_X3, ws_in (List.mem_of_getElem? (i := 129) (by decide +kernel)) rfl, tyX3_ok, nmX3, rfl, rfl⟩
theorem fp_X3_24 : FLp RX3 24 3 2 .int := ⟨RX3, TX3, 6, tyX3, rfl, by decide, wsin_X3, ws_in (List.mem_of_getElem? (i := 130) (by decide +kernel)) rfl, tyX3_ok, nmX3, rfl, rfl⟩
theorem fp_X3_28 : FLp RX3 28 3 3 (.object "WorkflowEngine$Version") := ⟨RX3, TX3, 6, tyX3, rfl, by decide, wsin_X3, ws_in (List.mem_of_getElem? (i := 131) (by decide +kernel)) rfl, tyX3_ok, nmX3, rfl, rfl⟩
theorem fp_X3_48 : FLp RX3 48 4 15 .int := ⟨RX4, TX4, 16, tyX4, rfl, by decide, wsin_X4, ws_in (List.mem_of_getElem? (i := 195) (by decide +kernel)) rfl, tyX4_ok, nmX4, rfl, rfl⟩
set_option maxHeartbeats 400000 in
set_option maxRecDepth 100000 in
theorem c_hk_kept {l : Launch} {E : Ev} {ad : Nat → Nat} {d : Nat}  {rl : Nat} {h : Mem}   (hd : 1 ≤ d) : Ct l yX1_kept cX1_kept 1 (some .int) d E (hH2 E ad rl h) [.ref (ad 4)] (fun v : Int32 => (some (.int v), hH2 E ad rl h)) (hi_kept rl h) := by
  refine Ct.of2 (own := RX1) (L := [(0, .ref (ad 4))]) rfl (by decide +kernel) (Nat.le_of_ble_eq_true rfl) rfl ?_
  unfold hi_kept
  refine b_aload_n (n := 1) 0 dX1_kept_0 rfl rfl rfl ?_
  refine b_get (n := 4) (v := .int (h 4 2)) 0 f_X1_25 dX1_kept_1 rfl hH2_o4 rfl ?_
  refine b_aload_n (n := 5) 0 dX1_kept_4 rfl rfl rfl ?_
  refine b_get (n := 8) (v := .ref (ad 5)) 0 f_X1_21 dX1_kept_5 rfl hH2_o4 rfl ?_
  refine b_alen (n := 9) (v := Int32.ofNat rl) 1 dX1_kept_8 rfl hH2_a5 rfl ?_
  refine b_mmin (n := 12) mw_X1_33 (by omega) (Nat.le_of_ble_eq_true rfl) dX1_kept_9 rfl ?_
  exact b_iret dX1_kept_12 rfl rfl
def en_copy (e2 : Mem)  (e : Mem) : Option (Mem) :=
  some (upA (upA (up e 1 2 (e2 1 2)) 2 (cpR 8 (e2 2) (e 2))) 3 (cpR 8 (e2 3) (e 3)))
set_option maxHeartbeats 400000 in
set_option maxRecDepth 100000 in
theorem c_en_copy {l : Launch} {E : Ev} {ad : Nat → Nat} {d : Nat}   {e2 : Mem}  {e : Mem} (hd : 3 ≤ d) : Ct l yX0_copy cX0_copy 2 none d E (hEC E ad e e2) [.ref (ad 1), .ref (ad 101)] (fun q : Mem => (none, hEC E ad q e2)) (en_copy e2 e) := by
  refine Ct.of2 (own := RX0) (L := [(0, .ref (ad 1)), (1, .ref (ad 101))]) rfl (by decide +kernel) (Nat.le_of_ble_eq_true rfl) rfl ?_
  unfold en_copy
  refine b_aload_n (n := 1) 0 dX0_copy_0 rfl rfl rfl ?_
  refine b_aload_n (n := 2) 1 dX0_copy_1 rfl rfl rfl ?_
  refine b_get (n := 5) (v := .int (e2 1 2)) 3 f_X0_24 dX0_copy_2 rfl hEC_o101 rfl ?_
  refine b_put (n := 8) (ws' := hEC E ad (up e 1 2 (e2 1 2)) e2) 0 fp_X0_24 dX0_copy_5 rfl hEC_o1 rfl rfl (Nat.le_of_ble_eq_true rfl) hEC_p1_2 ?_
  refine b_aload_n (n := 9) 1 dX0_copy_8 rfl rfl rfl ?_
  refine b_get (n := 12) (v := .ref (ad 102)) 3 f_X0_9 dX0_copy_9 rfl hEC_o101 rfl ?_
  refine b_aload_n (n := 13) 0 dX0_copy_12 rfl rfl rfl ?_
  refine b_get (n := 16) (v := .ref (ad 2)) 0 f_X0_9 dX0_copy_13 rfl hEC_o1 rfl ?_
  refine bRowN (n := 19) (rest := []) (ws' := hEC E ad (upA (up e 1 2 (e2 1 2)) 2 (cpR 8 (e2 2) (e 2))) e2) 4 1 (by decide) (by decide) lk_X0_28 (by omega) hEC_a102 hEC_a2 hEC_A2 (Nat.le_of_ble_eq_true rfl) dX0_copy_16 rfl ?_
  refine b_aload_n (n := 20) 1 dX0_copy_19 rfl rfl rfl ?_
  refine b_get (n := 23) (v := .ref (ad 103)) 3 f_X0_15 dX0_copy_20 rfl hEC_o101 rfl ?_
  refine b_aload_n (n := 24) 0 dX0_copy_23 rfl rfl rfl ?_
  refine b_get (n := 27) (v := .ref (ad 3)) 0 f_X0_15 dX0_copy_24 rfl hEC_o1 rfl ?_
  refine bRowN (n := 30) (rest := []) (ws' := hEC E ad (upA (upA (up e 1 2 (e2 1 2)) 2 (cpR 8 (e2 2) (e 2))) 3 (cpR 8 (e2 3) (e 3))) e2) 5 2 (by decide) (by decide) lk_X0_28 (by omega) hEC_a103 hEC_a3 hEC_A3 (Nat.le_of_ble_eq_true rfl) dX0_copy_27 rfl ?_
  exact b_vret dX0_copy_30 rfl rfl
def hi_copy (rl : Nat) (rl2 : Nat) (h2 : Mem)  (h : Mem) : Option (Mem) :=
  (hi_kept rl2 h2).bind fun k19 =>
  gd (¬ (if Int32.ofNat rl < k19 then Int32.ofNat rl else k19) < 0 ∧ (if Int32.ofNat rl < k19 then Int32.ofNat rl else k19).toNatClampNeg ≤ rl2 ∧ (if Int32.ofNat rl < k19 then Int32.ofNat rl else k19).toNatClampNeg ≤ rl) <|
  some (upA (up h 4 2 (h2 4 2)) 5 (cpR (if Int32.ofNat rl < k19 then Int32.ofNat rl else k19).toNatClampNeg (h2 5) (h 5)))
set_option maxHeartbeats 400000 in
set_option maxRecDepth 100000 in
theorem c_hi_copy {l : Launch} {E : Ev} {ad : Nat → Nat} {d : Nat}  {rl : Nat} {rl2 : Nat} {h2 : Mem}  {h : Mem} (hd : 3 ≤ d) : Ct l yX1_copy cX1_copy 2 none d E (hHC E ad rl rl2 h h2) [.ref (ad 4), .ref (ad 104)] (fun q : Mem => (none, hHC E ad rl rl2 q h2)) (hi_copy rl rl2 h2 h) := by
  refine Ct.of2 (own := RX1) (L := [(0, .ref (ad 4)), (1, .ref (ad 104))]) rfl (by decide +kernel) (Nat.le_of_ble_eq_true rfl) rfl ?_
  unfold hi_copy
  refine b_aload_n (n := 1) 0 dX1_copy_0 rfl rfl rfl ?_
  refine b_aload_n (n := 2) 1 dX1_copy_1 rfl rfl rfl ?_
  refine b_get (n := 5) (v := .int (h2 4 2)) 2 f_X1_25 dX1_copy_2 rfl hHC_o104 rfl ?_
  refine b_put (n := 8) (ws' := hHC E ad rl rl2 (up h 4 2 (h2 4 2)) h2) 0 fp_X1_25 dX1_copy_5 rfl hHC_o4 rfl rfl (Nat.le_of_ble_eq_true rfl) hHC_p4_2 ?_
  refine b_aload_n (n := 9) 1 dX1_copy_8 rfl rfl rfl ?_
  refine b_get (n := 12) (v := .ref (ad 105)) 2 f_X1_21 dX1_copy_9 rfl hHC_o104 rfl ?_
  refine b_iconst (n := 13) (v := 0) dX1_copy_12 rfl (by decide) ?_
  refine b_aload_n (n := 14) 0 dX1_copy_13 rfl rfl rfl ?_
  refine b_get (n := 17) (v := .ref (ad 5)) 0 f_X1_21 dX1_copy_14 rfl hHC_o4 rfl ?_
  refine b_iconst (n := 18) (v := 0) dX1_copy_17 rfl (by decide) ?_
  refine b_aload_n (n := 19) 1 dX1_copy_18 rfl rfl rfl ?_
  refine bVi (n := 22) (As := []) (rest := [.int 0, .ref (ad 5), .int 0, .ref (ad 105)]) 2 [2, 3] lk_X1_29 (c_hk_kept (ad := fun k => ad (k + 100)) (Nat.le_refl _)) (by omega) rfl (by decide) rfl rfl rfl rfl (Nat.le_of_ble_eq_true rfl) dX1_copy_19 rfl (fun k19 => ?_)
  refine b_aload_n (n := 23) 0 dX1_copy_22 rfl rfl rfl ?_
  refine b_get (n := 26) (v := .ref (ad 5)) 0 f_X1_21 dX1_copy_23 rfl hHC_o4 rfl ?_
  refine b_alen (n := 27) (v := Int32.ofNat rl) 1 dX1_copy_26 rfl hHC_a5 rfl ?_
  refine b_mmin (n := 30) mw_X1_33 (by omega) (Nat.le_of_ble_eq_true rfl) dX1_copy_27 rfl ?_
  refine b_gd (fun h30 => ?_)
  refine b_acopy (n := 33) (rest := []) (ws' := hHC E ad rl rl2 (upA (up h 4 2 (h2 4 2)) 5 (cpR (if Int32.ofNat rl < k19 then Int32.ofNat rl else k19).toNatClampNeg (h2 5) (h 5))) h2) 3 1 ac_X1_36 (by omega) (Nat.le_of_ble_eq_true rfl) dX1_copy_30 rfl hHC_a105 hHC_a5 h30.1 h30.2.1 h30.2.2 (by rw [cpy_eq]; rfl) ?_
  exact b_vret dX1_copy_33 rfl rfl
def in_copy (rl : Nat) (rl2 : Nat) (h2 : Mem) (o2 : Mem)  (o : Mem) (h : Mem) : Option (Mem × Mem) :=
  (hi_copy rl rl2 h2 h).bind fun h64 =>
  some (upA (upA (upA (upA (upA (upA (upA (upA (upA (up (up (up (up (up (up o 0 3 (o2 0 3)) 0 4 (o2 0 4)) 0 5 (o2 0 5)) 0 6 (o2 0 6)) 0 7 (o2 0 7)) 0 8 (o2 0 8)) 16 (cpR 4 (o2 16) (o 16))) 17 (cpR 8 (o2 17) (o 17))) 18 (cpR 24 (o2 18) (o 18))) 19 (cpR 24 (o2 19) (o 19))) 20 (cpR 24 (o2 20) (o 20))) 21 (cpR 24 (o2 21) (o 21))) 22 (cpR 25 (o2 22) (o 22))) 23 (cpR 25 (o2 23) (o 23))) 24 (cpR 25 (o2 24) (o 24)), h64)
set_option maxHeartbeats 400000 in
set_option maxRecDepth 100000 in
theorem c_in_copy {l : Launch} {E : Ev} {ad : Nat → Nat} {d : Nat}  {rl : Nat} {rl2 : Nat} {pa : Nat} {o2 : Mem} {h2 : Mem} {pb : Nat}  {o : Mem} {h : Mem} (hd : 5 ≤ d) : Ct l yX2_copy cX2_copy 2 none d E (hIC E ad rl rl2 o h pa o2 h2 pb) [.ref (ad 0), .ref (ad 100)] (fun q : Mem × Mem => (none, hIC E ad rl rl2 q.1 q.2 pb o2 h2 pb)) (in_copy rl rl2 h2 o2 o h) := by
  refine Ct.of2 (own := RX2) (L := [(0, .ref (ad 0)), (1, .ref (ad 100))]) rfl (by decide +kernel) (Nat.le_of_ble_eq_true rfl) rfl ?_
  unfold in_copy
  refine b_aload_n (n := 1) 0 dX2_copy_0 rfl rfl rfl ?_
  refine b_aload_n (n := 2) 1 dX2_copy_1 rfl rfl rfl ?_
  refine b_get (n := 5) (v := .int (o2 0 3)) 12 f_X2_9 dX2_copy_2 rfl hIC_o100 rfl ?_
  refine b_put (n := 8) (ws' := hIC E ad rl rl2 (up o 0 3 (o2 0 3)) h pa o2 h2 pb) 0 fp_X2_9 dX2_copy_5 rfl hIC_o0 rfl rfl (Nat.le_of_ble_eq_true rfl) hIC_p0_3 ?_
  refine b_aload_n (n := 9) 0 dX2_copy_8 rfl rfl rfl ?_
  refine b_aload_n (n := 10) 1 dX2_copy_9 rfl rfl rfl ?_
  refine b_get (n := 13) (v := .ref pb) 12 f_X2_47 dX2_copy_10 rfl hIC_o100 rfl ?_
  refine b_put (n := 16) (ws' := hIC E ad rl rl2 (up o 0 3 (o2 0 3)) h pb o2 h2 pb) 0 fp_X2_47 dX2_copy_13 rfl hIC_o0 rfl rfl (Nat.le_of_ble_eq_true rfl) rfl ?_
  refine b_aload_n (n := 17) 0 dX2_copy_16 rfl rfl rfl ?_
  refine b_aload_n (n := 18) 1 dX2_copy_17 rfl rfl rfl ?_
  refine b_get (n := 21) (v := .int (o2 0 4)) 12 f_X2_60 dX2_copy_18 rfl hIC_o100 rfl ?_
  refine b_put (n := 24) (ws' := hIC E ad rl rl2 (up (up o 0 3 (o2 0 3)) 0 4 (o2 0 4)) h pb o2 h2 pb) 0 fp_X2_60 dX2_copy_21 rfl hIC_o0 rfl rfl (Nat.le_of_ble_eq_true rfl) hIC_p0_4 ?_
  refine b_aload_n (n := 25) 0 dX2_copy_24 rfl rfl rfl ?_
  refine b_aload_n (n := 26) 1 dX2_copy_25 rfl rfl rfl ?_
  refine b_get (n := 29) (v := .int (o2 0 5)) 12 f_X2_63 dX2_copy_26 rfl hIC_o100 rfl ?_
  refine b_put (n := 32) (ws' := hIC E ad rl rl2 (up (up (up o 0 3 (o2 0 3)) 0 4 (o2 0 4)) 0 5 (o2 0 5)) h pb o2 h2 pb) 0 fp_X2_63 dX2_copy_29 rfl hIC_o0 rfl rfl (Nat.le_of_ble_eq_true rfl) hIC_p0_5 ?_
  refine b_aload_n (n := 33) 0 dX2_copy_32 rfl rfl rfl ?_
  refine b_aload_n (n := 34) 1 dX2_copy_33 rfl rfl rfl ?_
  refine b_get (n := 37) (v := .int (o2 0 6)) 12 f_X2_66 dX2_copy_34 rfl hIC_o100 rfl ?_
  refine b_put (n := 40) (ws' := hIC E ad rl rl2 (up (up (up (up o 0 3 (o2 0 3)) 0 4 (o2 0 4)) 0 5 (o2 0 5)) 0 6 (o2 0 6)) h pb o2 h2 pb) 0 fp_X2_66 dX2_copy_37 rfl hIC_o0 rfl rfl (Nat.le_of_ble_eq_true rfl) hIC_p0_6 ?_
  refine b_aload_n (n := 41) 0 dX2_copy_40 rfl rfl rfl ?_
  refine b_aload_n (n := 42) 1 dX2_copy_41 rfl rfl rfl ?_
  refine b_get (n := 45) (v := .int (o2 0 7)) 12 f_X2_69 dX2_copy_42 rfl hIC_o100 rfl ?_
  refine b_put (n := 48) (ws' := hIC E ad rl rl2 (up (up (up (up (up o 0 3 (o2 0 3)) 0 4 (o2 0 4)) 0 5 (o2 0 5)) 0 6 (o2 0 6)) 0 7 (o2 0 7)) h pb o2 h2 pb) 0 fp_X2_69 dX2_copy_45 rfl hIC_o0 rfl rfl (Nat.le_of_ble_eq_true rfl) hIC_p0_7 ?_
  refine b_aload_n (n := 49) 0 dX2_copy_48 rfl rfl rfl ?_
  refine b_aload_n (n := 50) 1 dX2_copy_49 rfl rfl rfl ?_
  refine b_get (n := 53) (v := .int (o2 0 8)) 12 f_X2_72 dX2_copy_50 rfl hIC_o100 rfl ?_
  refine b_put (n := 56) (ws' := hIC E ad rl rl2 (up (up (up (up (up (up o 0 3 (o2 0 3)) 0 4 (o2 0 4)) 0 5 (o2 0 5)) 0 6 (o2 0 6)) 0 7 (o2 0 7)) 0 8 (o2 0 8)) h pb o2 h2 pb) 0 fp_X2_72 dX2_copy_53 rfl hIC_o0 rfl rfl (Nat.le_of_ble_eq_true rfl) hIC_p0_8 ?_
  refine b_aload_n (n := 57) 0 dX2_copy_56 rfl rfl rfl ?_
  refine b_get (n := 60) (v := .ref (ad 4)) 0 f_X2_56 dX2_copy_57 rfl hIC_o0 rfl ?_
  refine b_aload_n (n := 61) 1 dX2_copy_60 rfl rfl rfl ?_
  refine b_get (n := 64) (v := .ref (ad 104)) 12 f_X2_56 dX2_copy_61 rfl hIC_o100 rfl ?_
  refine bVwv (n := 67) (hh := (fun s : Mem => hHC E ad rl rl2 s h2)) (As := [.ref (ad 104)]) (rest := []) (fun s : Mem => hIC E ad rl rl2 (up (up (up (up (up (up o 0 3 (o2 0 3)) 0 4 (o2 0 4)) 0 5 (o2 0 5)) 0 6 (o2 0 6)) 0 7 (o2 0 7)) 0 8 (o2 0 8)) s pb o2 h2 pb) 1 [1, 2, 13, 14] lk_X2_75 (c_hi_copy (Nat.le_refl _)) (by omega) rfl (by decide) (fun _ => rfl) (fun _ => rfl) rfl rfl rfl rfl (Nat.le_of_ble_eq_true rfl) dX2_copy_64 rfl ?_
  intro h64
  refine b_aload_n (n := 68) 1 dX2_copy_67 rfl rfl rfl ?_
  refine b_get (n := 71) (v := .ref (ad 116)) 12 f_X2_15 dX2_copy_68 rfl hIC_o100 rfl ?_
  refine b_aload_n (n := 72) 0 dX2_copy_71 rfl rfl rfl ?_
  refine b_get (n := 75) (v := .ref (ad 16)) 0 f_X2_15 dX2_copy_72 rfl hIC_o0 rfl ?_
  refine bRowN (n := 78) (rest := []) (ws' := hIC E ad rl rl2 (upA (up (up (up (up (up (up o 0 3 (o2 0 3)) 0 4 (o2 0 4)) 0 5 (o2 0 5)) 0 6 (o2 0 6)) 0 7 (o2 0 7)) 0 8 (o2 0 8)) 16 (cpR 4 (o2 16) (o 16))) h64 pb o2 h2 pb) 15 3 (by decide) (by decide) lk_X2_79 (by omega) hIC_a116 hIC_a16 hIC_A16 (Nat.le_of_ble_eq_true rfl) dX2_copy_75 rfl ?_
  refine b_aload_n (n := 79) 1 dX2_copy_78 rfl rfl rfl ?_
  refine b_get (n := 82) (v := .ref (ad 117)) 12 f_X2_19 dX2_copy_79 rfl hIC_o100 rfl ?_
  refine b_aload_n (n := 83) 0 dX2_copy_82 rfl rfl rfl ?_
  refine b_get (n := 86) (v := .ref (ad 17)) 0 f_X2_19 dX2_copy_83 rfl hIC_o0 rfl ?_
  refine bRowN (n := 89) (rest := []) (ws' := hIC E ad rl rl2 (upA (upA (up (up (up (up (up (up o 0 3 (o2 0 3)) 0 4 (o2 0 4)) 0 5 (o2 0 5)) 0 6 (o2 0 6)) 0 7 (o2 0 7)) 0 8 (o2 0 8)) 16 (cpR 4 (o2 16) (o 16))) 17 (cpR 8 (o2 17) (o 17))) h64 pb o2 h2 pb) 16 4 (by decide) (by decide) lk_X2_79 (by omega) hIC_a117 hIC_a17 hIC_A17 (Nat.le_of_ble_eq_true rfl) dX2_copy_86 rfl ?_
  refine b_aload_n (n := 90) 1 dX2_copy_89 rfl rfl rfl ?_
  refine b_get (n := 93) (v := .ref (ad 118)) 12 f_X2_22 dX2_copy_90 rfl hIC_o100 rfl ?_
  refine b_aload_n (n := 94) 0 dX2_copy_93 rfl rfl rfl ?_
  refine b_get (n := 97) (v := .ref (ad 18)) 0 f_X2_22 dX2_copy_94 rfl hIC_o0 rfl ?_
  refine bRowN (n := 100) (rest := []) (ws' := hIC E ad rl rl2 (upA (upA (upA (up (up (up (up (up (up o 0 3 (o2 0 3)) 0 4 (o2 0 4)) 0 5 (o2 0 5)) 0 6 (o2 0 6)) 0 7 (o2 0 7)) 0 8 (o2 0 8)) 16 (cpR 4 (o2 16) (o 16))) 17 (cpR 8 (o2 17) (o 17))) 18 (cpR 24 (o2 18) (o 18))) h64 pb o2 h2 pb) 17 5 (by decide) (by decide) lk_X2_79 (by omega) hIC_a118 hIC_a18 hIC_A18 (Nat.le_of_ble_eq_true rfl) dX2_copy_97 rfl ?_
  refine b_aload_n (n := 101) 1 dX2_copy_100 rfl rfl rfl ?_
  refine b_get (n := 104) (v := .ref (ad 119)) 12 f_X2_25 dX2_copy_101 rfl hIC_o100 rfl ?_
  refine b_aload_n (n := 105) 0 dX2_copy_104 rfl rfl rfl ?_
  refine b_get (n := 108) (v := .ref (ad 19)) 0 f_X2_25 dX2_copy_105 rfl hIC_o0 rfl ?_
  refine bRowN (n := 111) (rest := []) (ws' := hIC E ad rl rl2 (upA (upA (upA (upA (up (up (up (up (up (up o 0 3 (o2 0 3)) 0 4 (o2 0 4)) 0 5 (o2 0 5)) 0 6 (o2 0 6)) 0 7 (o2 0 7)) 0 8 (o2 0 8)) 16 (cpR 4 (o2 16) (o 16))) 17 (cpR 8 (o2 17) (o 17))) 18 (cpR 24 (o2 18) (o 18))) 19 (cpR 24 (o2 19) (o 19))) h64 pb o2 h2 pb) 18 6 (by decide) (by decide) lk_X2_79 (by omega) hIC_a119 hIC_a19 hIC_A19 (Nat.le_of_ble_eq_true rfl) dX2_copy_108 rfl ?_
  refine b_aload_n (n := 112) 1 dX2_copy_111 rfl rfl rfl ?_
  refine b_get (n := 115) (v := .ref (ad 120)) 12 f_X2_28 dX2_copy_112 rfl hIC_o100 rfl ?_
  refine b_aload_n (n := 116) 0 dX2_copy_115 rfl rfl rfl ?_
  refine b_get (n := 119) (v := .ref (ad 20)) 0 f_X2_28 dX2_copy_116 rfl hIC_o0 rfl ?_
  refine bRowN (n := 122) (rest := []) (ws' := hIC E ad rl rl2 (upA (upA (upA (upA (upA (up (up (up (up (up (up o 0 3 (o2 0 3)) 0 4 (o2 0 4)) 0 5 (o2 0 5)) 0 6 (o2 0 6)) 0 7 (o2 0 7)) 0 8 (o2 0 8)) 16 (cpR 4 (o2 16) (o 16))) 17 (cpR 8 (o2 17) (o 17))) 18 (cpR 24 (o2 18) (o 18))) 19 (cpR 24 (o2 19) (o 19))) 20 (cpR 24 (o2 20) (o 20))) h64 pb o2 h2 pb) 19 7 (by decide) (by decide) lk_X2_79 (by omega) hIC_a120 hIC_a20 hIC_A20 (Nat.le_of_ble_eq_true rfl) dX2_copy_119 rfl ?_
  refine b_aload_n (n := 123) 1 dX2_copy_122 rfl rfl rfl ?_
  refine b_get (n := 126) (v := .ref (ad 121)) 12 f_X2_31 dX2_copy_123 rfl hIC_o100 rfl ?_
  refine b_aload_n (n := 127) 0 dX2_copy_126 rfl rfl rfl ?_
  refine b_get (n := 130) (v := .ref (ad 21)) 0 f_X2_31 dX2_copy_127 rfl hIC_o0 rfl ?_
  refine bRowN (n := 133) (rest := []) (ws' := hIC E ad rl rl2 (upA (upA (upA (upA (upA (upA (up (up (up (up (up (up o 0 3 (o2 0 3)) 0 4 (o2 0 4)) 0 5 (o2 0 5)) 0 6 (o2 0 6)) 0 7 (o2 0 7)) 0 8 (o2 0 8)) 16 (cpR 4 (o2 16) (o 16))) 17 (cpR 8 (o2 17) (o 17))) 18 (cpR 24 (o2 18) (o 18))) 19 (cpR 24 (o2 19) (o 19))) 20 (cpR 24 (o2 20) (o 20))) 21 (cpR 24 (o2 21) (o 21))) h64 pb o2 h2 pb) 20 8 (by decide) (by decide) lk_X2_79 (by omega) hIC_a121 hIC_a21 hIC_A21 (Nat.le_of_ble_eq_true rfl) dX2_copy_130 rfl ?_
  refine b_aload_n (n := 134) 1 dX2_copy_133 rfl rfl rfl ?_
  refine b_get (n := 137) (v := .ref (ad 122)) 12 f_X2_34 dX2_copy_134 rfl hIC_o100 rfl ?_
  refine b_aload_n (n := 138) 0 dX2_copy_137 rfl rfl rfl ?_
  refine b_get (n := 141) (v := .ref (ad 22)) 0 f_X2_34 dX2_copy_138 rfl hIC_o0 rfl ?_
  refine bRowN (n := 144) (rest := []) (ws' := hIC E ad rl rl2 (upA (upA (upA (upA (upA (upA (upA (up (up (up (up (up (up o 0 3 (o2 0 3)) 0 4 (o2 0 4)) 0 5 (o2 0 5)) 0 6 (o2 0 6)) 0 7 (o2 0 7)) 0 8 (o2 0 8)) 16 (cpR 4 (o2 16) (o 16))) 17 (cpR 8 (o2 17) (o 17))) 18 (cpR 24 (o2 18) (o 18))) 19 (cpR 24 (o2 19) (o 19))) 20 (cpR 24 (o2 20) (o 20))) 21 (cpR 24 (o2 21) (o 21))) 22 (cpR 25 (o2 22) (o 22))) h64 pb o2 h2 pb) 21 9 (by decide) (by decide) lk_X2_79 (by omega) hIC_a122 hIC_a22 hIC_A22 (Nat.le_of_ble_eq_true rfl) dX2_copy_141 rfl ?_
  refine b_aload_n (n := 145) 1 dX2_copy_144 rfl rfl rfl ?_
  refine b_get (n := 148) (v := .ref (ad 123)) 12 f_X2_37 dX2_copy_145 rfl hIC_o100 rfl ?_
  refine b_aload_n (n := 149) 0 dX2_copy_148 rfl rfl rfl ?_
  refine b_get (n := 152) (v := .ref (ad 23)) 0 f_X2_37 dX2_copy_149 rfl hIC_o0 rfl ?_
  refine bRowN (n := 155) (rest := []) (ws' := hIC E ad rl rl2 (upA (upA (upA (upA (upA (upA (upA (upA (up (up (up (up (up (up o 0 3 (o2 0 3)) 0 4 (o2 0 4)) 0 5 (o2 0 5)) 0 6 (o2 0 6)) 0 7 (o2 0 7)) 0 8 (o2 0 8)) 16 (cpR 4 (o2 16) (o 16))) 17 (cpR 8 (o2 17) (o 17))) 18 (cpR 24 (o2 18) (o 18))) 19 (cpR 24 (o2 19) (o 19))) 20 (cpR 24 (o2 20) (o 20))) 21 (cpR 24 (o2 21) (o 21))) 22 (cpR 25 (o2 22) (o 22))) 23 (cpR 25 (o2 23) (o 23))) h64 pb o2 h2 pb) 22 10 (by decide) (by decide) lk_X2_79 (by omega) hIC_a123 hIC_a23 hIC_A23 (Nat.le_of_ble_eq_true rfl) dX2_copy_152 rfl ?_
  refine b_aload_n (n := 156) 1 dX2_copy_155 rfl rfl rfl ?_
  refine b_get (n := 159) (v := .ref (ad 124)) 12 f_X2_40 dX2_copy_156 rfl hIC_o100 rfl ?_
  refine b_aload_n (n := 160) 0 dX2_copy_159 rfl rfl rfl ?_
  refine b_get (n := 163) (v := .ref (ad 24)) 0 f_X2_40 dX2_copy_160 rfl hIC_o0 rfl ?_
  refine bRowN (n := 166) (rest := []) (ws' := hIC E ad rl rl2 (upA (upA (upA (upA (upA (upA (upA (upA (upA (up (up (up (up (up (up o 0 3 (o2 0 3)) 0 4 (o2 0 4)) 0 5 (o2 0 5)) 0 6 (o2 0 6)) 0 7 (o2 0 7)) 0 8 (o2 0 8)) 16 (cpR 4 (o2 16) (o 16))) 17 (cpR 8 (o2 17) (o 17))) 18 (cpR 24 (o2 18) (o 18))) 19 (cpR 24 (o2 19) (o 19))) 20 (cpR 24 (o2 20) (o 20))) 21 (cpR 24 (o2 21) (o 21))) 22 (cpR 25 (o2 22) (o 22))) 23 (cpR 25 (o2 23) (o 23))) 24 (cpR 25 (o2 24) (o 24))) h64 pb o2 h2 pb) 23 11 (by decide) (by decide) lk_X2_79 (by omega) hIC_a124 hIC_a24 hIC_A24 (Nat.le_of_ble_eq_true rfl) dX2_copy_163 rfl ?_
  exact b_vret dX2_copy_166 rfl rfl
def in_begin (N : Nat) (D : Nat) (rl : Nat) (p : Mem)  (o : Mem) (h : Mem) (e : Mem) : Option (Mem × Mem × Mem) :=
  (in_beginBody N rl p (kn_igo N rl p D) 0 0 (upA (upA (upA (upA (up (up (up (up (up (up o 0 3 0) 0 4 (e 1 2)) 0 5 ((-5))) 0 6 0) 0 7 0) 0 8 0) 16 (fun q => if q < 4 then 0 else (o 16) q)) 17 (fun q => if q < 8 then 0 else (o 17) q)) 18 (fun q => if q < 24 then 0 else (o 18) q)) 19 (fun q => if q < 24 then 0 else (o 19) q)) (up h 4 2 0) e).bind fun (o85, h85, e85) =>
  (in_look N D rl p o85 h85 e85).bind fun (o89, h89, e89) =>
  some (o89, h89, e89)
set_option maxHeartbeats 400000 in
set_option maxRecDepth 100000 in
theorem c_in_begin {l : Launch} {E : Ev} {ad : Nat → Nat} {d : Nat} {N : Nat} {D : Nat} {rl : Nat} {p : Mem} {pa : Nat}  {o : Mem} {h : Mem} {e : Mem} (hd : 3 * D + 10 ≤ d) : Ct l yX2_begin cX2_begin 2 none d E (hIB E ad rl o h e p pa) [.ref (ad 0), .ref (ad 6)] (fun q : Mem × Mem × Mem => (none, hIB E ad rl q.1 q.2.1 q.2.2 p (ad 6))) (in_begin N D rl p o h e) := by
  refine Ct.of2 (own := RX2) (L := [(0, .ref (ad 0)), (1, .ref (ad 6))]) rfl (by decide +kernel) (Nat.le_of_ble_eq_true rfl) rfl ?_
  unfold in_begin
  refine b_aload_n (n := 1) 0 dX2_begin_0 rfl rfl rfl ?_
  refine b_aload_n (n := 2) 1 dX2_begin_1 rfl rfl rfl ?_
  refine b_put (n := 5) (ws' := hIB E ad rl o h e p (ad 6)) 0 fp_X2_47 dX2_begin_2 rfl hIB_o0 rfl rfl (Nat.le_of_ble_eq_true rfl) rfl ?_
  refine b_aload_n (n := 6) 0 dX2_begin_5 rfl rfl rfl ?_
  refine b_iconst (n := 7) (v := 0) dX2_begin_6 rfl (by decide) ?_
  refine b_put (n := 10) (ws' := hIB E ad rl (up o 0 3 0) h e p (ad 6)) 0 fp_X2_9 dX2_begin_7 rfl hIB_o0 rfl rfl (Nat.le_of_ble_eq_true rfl) hIB_p0_3 ?_
  refine b_aload_n (n := 11) 0 dX2_begin_10 rfl rfl rfl ?_
  refine b_aload_n (n := 12) 0 dX2_begin_11 rfl rfl rfl ?_
  refine b_get (n := 15) (v := .ref (ad 1)) 0 f_X2_43 dX2_begin_12 rfl hIB_o0 rfl ?_
  refine b_get (n := 18) (v := .int (e 1 2)) 1 f_X2_83 dX2_begin_15 rfl hIB_o1 rfl ?_
  refine b_put (n := 21) (ws' := hIB E ad rl (up (up o 0 3 0) 0 4 (e 1 2)) h e p (ad 6)) 0 fp_X2_60 dX2_begin_18 rfl hIB_o0 rfl rfl (Nat.le_of_ble_eq_true rfl) hIB_p0_4 ?_
  refine b_aload_n (n := 22) 0 dX2_begin_21 rfl rfl rfl ?_
  refine b_bipush (n := 24) (v := -5) dX2_begin_22 rfl (by decide) ?_
  refine b_put (n := 27) (ws' := hIB E ad rl (up (up (up o 0 3 0) 0 4 (e 1 2)) 0 5 ((-5))) h e p (ad 6)) 0 fp_X2_63 dX2_begin_24 rfl hIB_o0 rfl rfl (Nat.le_of_ble_eq_true rfl) hIB_p0_5 ?_
  refine b_aload_n (n := 28) 0 dX2_begin_27 rfl rfl rfl ?_
  refine b_iconst (n := 29) (v := 0) dX2_begin_28 rfl (by decide) ?_
  refine b_put (n := 32) (ws' := hIB E ad rl (up (up (up (up o 0 3 0) 0 4 (e 1 2)) 0 5 ((-5))) 0 6 0) h e p (ad 6)) 0 fp_X2_66 dX2_begin_29 rfl hIB_o0 rfl rfl (Nat.le_of_ble_eq_true rfl) hIB_p0_6 ?_
  refine b_aload_n (n := 33) 0 dX2_begin_32 rfl rfl rfl ?_
  refine b_iconst (n := 34) (v := 0) dX2_begin_33 rfl (by decide) ?_
  refine b_put (n := 37) (ws' := hIB E ad rl (up (up (up (up (up o 0 3 0) 0 4 (e 1 2)) 0 5 ((-5))) 0 6 0) 0 7 0) h e p (ad 6)) 0 fp_X2_69 dX2_begin_34 rfl hIB_o0 rfl rfl (Nat.le_of_ble_eq_true rfl) hIB_p0_7 ?_
  refine b_aload_n (n := 38) 0 dX2_begin_37 rfl rfl rfl ?_
  refine b_iconst (n := 39) (v := 0) dX2_begin_38 rfl (by decide) ?_
  refine b_put (n := 42) (ws' := hIB E ad rl (up (up (up (up (up (up o 0 3 0) 0 4 (e 1 2)) 0 5 ((-5))) 0 6 0) 0 7 0) 0 8 0) h e p (ad 6)) 0 fp_X2_72 dX2_begin_39 rfl hIB_o0 rfl rfl (Nat.le_of_ble_eq_true rfl) hIB_p0_8 ?_
  refine b_aload_n (n := 43) 0 dX2_begin_42 rfl rfl rfl ?_
  refine b_get (n := 46) (v := .ref (ad 4)) 0 f_X2_56 dX2_begin_43 rfl hIB_o0 rfl ?_
  refine b_iconst (n := 47) (v := 0) dX2_begin_46 rfl (by decide) ?_
  refine b_put (n := 50) (ws' := hIB E ad rl (up (up (up (up (up (up o 0 3 0) 0 4 (e 1 2)) 0 5 ((-5))) 0 6 0) 0 7 0) 0 8 0) (up h 4 2 0) e p (ad 6)) 4 fp_X2_88 dX2_begin_47 rfl hIB_o4 rfl rfl (Nat.le_of_ble_eq_true rfl) hIB_p4_2 ?_
  refine b_aload_n (n := 51) 0 dX2_begin_50 rfl rfl rfl ?_
  refine b_get (n := 54) (v := .ref (ad 16)) 0 f_X2_15 dX2_begin_51 rfl hIB_o0 rfl ?_
  refine b_iconst (n := 55) (v := 0) dX2_begin_54 rfl (by decide) ?_
  refine bFill (n := 58) (rest := []) (ws' := hIB E ad rl (upA (up (up (up (up (up (up o 0 3 0) 0 4 (e 1 2)) 0 5 ((-5))) 0 6 0) 0 7 0) 0 8 0) 16 (fun q => if q < 4 then 0 else (o 16) q)) (up h 4 2 0) e p (ad 6)) 6 (by decide) lk_X2_91 (by omega) hIB_a16 hIB_A16 (Nat.le_of_ble_eq_true rfl) dX2_begin_55 rfl ?_
  refine b_aload_n (n := 59) 0 dX2_begin_58 rfl rfl rfl ?_
  refine b_get (n := 62) (v := .ref (ad 17)) 0 f_X2_19 dX2_begin_59 rfl hIB_o0 rfl ?_
  refine b_iconst (n := 63) (v := 0) dX2_begin_62 rfl (by decide) ?_
  refine bFill (n := 66) (rest := []) (ws' := hIB E ad rl (upA (upA (up (up (up (up (up (up o 0 3 0) 0 4 (e 1 2)) 0 5 ((-5))) 0 6 0) 0 7 0) 0 8 0) 16 (fun q => if q < 4 then 0 else (o 16) q)) 17 (fun q => if q < 8 then 0 else (o 17) q)) (up h 4 2 0) e p (ad 6)) 7 (by decide) lk_X2_91 (by omega) hIB_a17 hIB_A17 (Nat.le_of_ble_eq_true rfl) dX2_begin_63 rfl ?_
  refine b_aload_n (n := 67) 0 dX2_begin_66 rfl rfl rfl ?_
  refine b_get (n := 70) (v := .ref (ad 18)) 0 f_X2_22 dX2_begin_67 rfl hIB_o0 rfl ?_
  refine b_iconst (n := 71) (v := 0) dX2_begin_70 rfl (by decide) ?_
  refine bFill (n := 74) (rest := []) (ws' := hIB E ad rl (upA (upA (upA (up (up (up (up (up (up o 0 3 0) 0 4 (e 1 2)) 0 5 ((-5))) 0 6 0) 0 7 0) 0 8 0) 16 (fun q => if q < 4 then 0 else (o 16) q)) 17 (fun q => if q < 8 then 0 else (o 17) q)) 18 (fun q => if q < 24 then 0 else (o 18) q)) (up h 4 2 0) e p (ad 6)) 8 (by decide) lk_X2_91 (by omega) hIB_a18 hIB_A18 (Nat.le_of_ble_eq_true rfl) dX2_begin_71 rfl ?_
  refine b_aload_n (n := 75) 0 dX2_begin_74 rfl rfl rfl ?_
  refine b_get (n := 78) (v := .ref (ad 19)) 0 f_X2_25 dX2_begin_75 rfl hIB_o0 rfl ?_
  refine b_iconst (n := 79) (v := 0) dX2_begin_78 rfl (by decide) ?_
  refine bFill (n := 82) (rest := []) (ws' := hIB E ad rl (upA (upA (upA (upA (up (up (up (up (up (up o 0 3 0) 0 4 (e 1 2)) 0 5 ((-5))) 0 6 0) 0 7 0) 0 8 0) 16 (fun q => if q < 4 then 0 else (o 16) q)) 17 (fun q => if q < 8 then 0 else (o 17) q)) 18 (fun q => if q < 24 then 0 else (o 18) q)) 19 (fun q => if q < 24 then 0 else (o 19) q)) (up h 4 2 0) e p (ad 6)) 9 (by decide) lk_X2_91 (by omega) hIB_a19 hIB_A19 (Nat.le_of_ble_eq_true rfl) dX2_begin_79 rfl ?_
  refine b_aload_n (n := 83) 0 dX2_begin_82 rfl rfl rfl ?_
  refine b_iconst (n := 84) (v := 0) dX2_begin_83 rfl (by decide) ?_
  refine b_iconst (n := 85) (v := 0) dX2_begin_84 rfl (by decide) ?_
  refine bV0wv (n := 88) (hh := (fun s : Mem × Mem × Mem => hIB E ad rl s.1 s.2.1 s.2.2 p (ad 6))) (As := [.int 0, .int 0]) (rest := []) 0 lk_X2_97 (c_in_beginBody (Nat.le_refl _) (Nat.le_add_right _ _) (ck1_igo D) (ck2_igo D)) (by omega) (fun _ => rfl) rfl rfl rfl rfl (Nat.le_of_ble_eq_true rfl) dX2_begin_85 rfl ?_
  rintro ⟨o85, h85, e85⟩
  try dsimp only
  refine b_aload_n (n := 89) 0 dX2_begin_88 rfl rfl rfl ?_
  refine bV0wv (n := 92) (hh := (fun s : Mem × Mem × Mem => hIB E ad rl s.1 s.2.1 s.2.2 p (ad 6))) (As := []) (rest := []) 0 lk_X2_101 (c_in_look (Nat.le_refl _)) (by omega) (fun _ => rfl) rfl rfl rfl rfl (Nat.le_of_ble_eq_true rfl) dX2_begin_89 rfl ?_
  rintro ⟨o89, h89, e89⟩
  try dsimp only
  exact b_vret dX2_begin_92 rfl rfl
def re_read (N : Nat) (D : Nat) (t : Mem) (x2 : Int32) (r : Mem) (p : Mem) : Option (Int32 × Mem × Mem) :=
  (ve_clear (if 80 < x2 then 80 else x2) p).bind fun p38 =>
  (re_readBody N t (kn_rread N t D) 0 (up (up (up r 0 2 (if 80 < x2 then 80 else x2)) 0 4 0) 0 5 0) p38).bind fun (k47, r47, p47) =>
  if r47 0 5 < r47 0 2 then
    ((re_fail 1 r47).bind fun r66 =>
    some (r66 0 4, r66, up p47 6 15 k47))
  else
    (some (r47 0 4, r47, up p47 6 15 k47))
set_option maxHeartbeats 400000 in
set_option maxRecDepth 100000 in
theorem c_re_read {l : Launch} {E : Ev} {ad : Nat → Nat} {d : Nat} {N : Nat} {D : Nat}  {t : Mem} {vt : Value} {vu : Value} {x2 : Int32} {r : Mem} {p : Mem} (hd : 4 * D + 10 ≤ d) : Ct l yX3_read cX3_read 4 (some .int) d E (hR0 E ad r t p vt vu) [.ref (ad 0), .ref (ad 2), .int x2, .ref (ad 6)] (fun q : Int32 × Mem × Mem => (some (.int q.1), hR0 E ad q.2.1 t q.2.2 ((.ref (ad 2))) ((.ref (ad 6))))) (re_read N D t x2 r p) := by
  refine Ct.of2 (own := RX3) (L := [(0, .ref (ad 0)), (1, .ref (ad 2)), (2, .int x2), (3, .ref (ad 6))]) rfl (by decide +kernel) (Nat.le_of_ble_eq_true rfl) rfl ?_
  unfold re_read
  refine b_aload_n (n := 1) 0 dX3_read_0 rfl rfl rfl ?_
  refine b_aload_n (n := 2) 1 dX3_read_1 rfl rfl rfl ?_
  refine b_put (n := 5) (ws' := hR0 E ad r t p ((.ref (ad 2))) vu) 0 fp_X3_15 dX3_read_2 rfl hR0_o0 rfl rfl (Nat.le_of_ble_eq_true rfl) rfl ?_
  refine b_aload_n (n := 6) 0 dX3_read_5 rfl rfl rfl ?_
  refine b_iload_n (n := 7) 2 dX3_read_6 rfl rfl rfl ?_
  refine b_aload_n (n := 8) 1 dX3_read_7 rfl rfl rfl ?_
  refine b_alen (n := 9) (v := 80) 2 dX3_read_8 rfl hR0_a2 rfl ?_
  refine b_mmin (n := 12) mw_X3_18 (by omega) (Nat.le_of_ble_eq_true rfl) dX3_read_9 rfl ?_
  refine b_put (n := 15) (ws' := hR0 E ad (up r 0 2 (if 80 < x2 then 80 else x2)) t p ((.ref (ad 2))) vu) 0 fp_X3_24 dX3_read_12 rfl hR0_o0 rfl rfl (Nat.le_of_ble_eq_true rfl) hR0_p0_2 ?_
  refine b_aload_n (n := 16) 0 dX3_read_15 rfl rfl rfl ?_
  refine b_aload_n (n := 17) 3 dX3_read_16 rfl rfl rfl ?_
  refine b_put (n := 20) (ws' := hR0 E ad (up r 0 2 (if 80 < x2 then 80 else x2)) t p ((.ref (ad 2))) ((.ref (ad 6)))) 0 fp_X3_28 dX3_read_17 rfl hR0_o0 rfl rfl (Nat.le_of_ble_eq_true rfl) rfl ?_
  refine b_aload_n (n := 21) 0 dX3_read_20 rfl rfl rfl ?_
  refine b_iconst (n := 22) (v := 0) dX3_read_21 rfl (by decide) ?_
  refine b_put (n := 25) (ws' := hR0 E ad (up (up r 0 2 (if 80 < x2 then 80 else x2)) 0 4 0) t p ((.ref (ad 2))) ((.ref (ad 6)))) 0 fp_X3_32 dX3_read_22 rfl hR0_o0 rfl rfl (Nat.le_of_ble_eq_true rfl) hR0_p0_4 ?_
  refine b_aload_n (n := 26) 0 dX3_read_25 rfl rfl rfl ?_
  refine b_iconst (n := 27) (v := 0) dX3_read_26 rfl (by decide) ?_
  refine b_put (n := 30) (ws' := hR0 E ad (up (up (up r 0 2 (if 80 < x2 then 80 else x2)) 0 4 0) 0 5 0) t p ((.ref (ad 2))) ((.ref (ad 6)))) 0 fp_X3_35 dX3_read_27 rfl hR0_o0 rfl rfl (Nat.le_of_ble_eq_true rfl) hR0_p0_5 ?_
  refine b_aload_n (n := 31) 0 dX3_read_30 rfl rfl rfl ?_
  refine b_get (n := 34) (v := .ref (ad 6)) 0 f_X3_28 dX3_read_31 rfl hR0_o0 rfl ?_
  refine b_aload_n (n := 35) 0 dX3_read_34 rfl rfl rfl ?_
  refine b_get (n := 38) (v := .int (if 80 < x2 then 80 else x2)) 0 f_X3_24 dX3_read_35 rfl hR0_o0 rfl ?_
  refine bVwv (n := 41) (hh := (fun s : Mem => hV E ad s)) (As := [.int (if 80 < x2 then 80 else x2)]) (rest := []) (fun s : Mem => hR0 E ad (up (up (up r 0 2 (if 80 < x2 then 80 else x2)) 0 4 0) 0 5 0) t s ((.ref (ad 2))) ((.ref (ad 6)))) 3 [3, 4, 5, 6, 7, 8, 9, 10, 11, 12] lk_X3_38 (c_ve_clear (Nat.le_refl _)) (by omega) rfl (by decide) (fun _ => rfl) (fun _ => rfl) rfl rfl rfl rfl (Nat.le_of_ble_eq_true rfl) dX3_read_38 rfl ?_
  rintro p38
  try dsimp only
  refine b_aload_n (n := 42) 0 dX3_read_41 rfl rfl rfl ?_
  refine b_get (n := 45) (v := .ref (ad 6)) 0 f_X3_28 dX3_read_42 rfl hR0_o0 rfl ?_
  refine b_aload_n (n := 46) 0 dX3_read_45 rfl rfl rfl ?_
  refine b_iconst (n := 47) (v := 0) dX3_read_46 rfl (by decide) ?_
  refine bV0wi (n := 50) (hh := (fun s : Mem × Mem => hR0 E ad s.1 t s.2 ((.ref (ad 2))) ((.ref (ad 6))))) (As := [.int 0]) (rest := [.ref (ad 6)]) 0 lk_X3_44 (c_re_readBody (Nat.le_refl _) (Nat.le_add_right _ _) (ck_rread D)) (by omega) (fun _ => rfl) rfl rfl rfl rfl (Nat.le_of_ble_eq_true rfl) dX3_read_47 rfl ?_
  rintro k47 ⟨r47, p47⟩
  try dsimp only
  refine b_put (n := 53) (ws' := hR0 E ad r47 t (up p47 6 15 k47) ((.ref (ad 2))) ((.ref (ad 6)))) 3 fp_X3_48 dX3_read_50 rfl hR0_o6 rfl rfl (Nat.le_of_ble_eq_true rfl) hR0_p6_15 ?_
  refine b_aload_n (n := 54) 0 dX3_read_53 rfl rfl rfl ?_
  refine b_get (n := 57) (v := .int (r47 0 5)) 0 f_X3_35 dX3_read_54 rfl hR0_o0 rfl ?_
  refine b_aload_n (n := 58) 0 dX3_read_57 rfl rfl rfl ?_
  refine b_get (n := 61) (v := .int (r47 0 2)) 0 f_X3_24 dX3_read_58 rfl hR0_o0 rfl ?_
  refine b_cmp_ge (n := 64) (tgt := 69) dX3_read_61 (by decide) rfl (fun h61 => ?_) (fun h61 => ?_)
  · refine b_aload_n (n := 65) 0 dX3_read_64 rfl rfl rfl ?_
    refine b_iconst (n := 66) (v := 1) dX3_read_65 rfl (by decide) ?_
    refine bV0wv (n := 69) (hh := (fun s : Mem => hR0 E ad s t (up p47 6 15 k47) ((.ref (ad 2))) ((.ref (ad 6))))) (As := [.int 1]) (rest := []) 0 lk_X3_51 (c_re_fail (Nat.le_refl _)) (by omega) (fun _ => rfl) rfl rfl rfl rfl (Nat.le_of_ble_eq_true rfl) dX3_read_66 rfl ?_
    rintro r66
    try dsimp only
    refine b_aload_n (n := 70) 0 dX3_read_69 rfl rfl rfl ?_
    refine b_get (n := 73) (v := .int (r66 0 4)) 0 f_X3_32 dX3_read_70 rfl hR0_o0 rfl ?_
    exact b_iret dX3_read_73 rfl rfl
  · refine b_aload_n (n := 70) 0 dX3_read_69 rfl rfl rfl ?_
    refine b_get (n := 73) (v := .int (r47 0 4)) 0 f_X3_32 dX3_read_70 rfl hR0_o0 rfl ?_
    exact b_iret dX3_read_73 rfl rfl

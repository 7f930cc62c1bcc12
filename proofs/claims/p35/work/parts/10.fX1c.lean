def fJ6_bitCount_0f7a4 (x0 : Int32) : Int32 :=
  jn (α := Int32) ((x0 - (((x0).toUInt32 >>> (((1 : Int32)).toUInt32 &&& Int32.toUInt32 31)).toInt32 &&& (1431655765 : Int32)))) (fun w1 =>
  jn (α := Int32) (((w1 &&& (858993459 : Int32)) + (((w1).toUInt32 >>> (((2 : Int32)).toUInt32 &&& Int32.toUInt32 31)).toInt32 &&& (858993459 : Int32)))) (fun w2 =>
  jn (α := Int32) (((w2 + ((w2).toUInt32 >>> (((4 : Int32)).toUInt32 &&& Int32.toUInt32 31)).toInt32) &&& (252645135 : Int32))) (fun w3 =>
  jn (α := Int32) ((w3 + ((w3).toUInt32 >>> (((8 : Int32)).toUInt32 &&& Int32.toUInt32 31)).toInt32)) (fun w4 =>
  jn (α := Int32) ((w4 + ((w4).toUInt32 >>> (((16 : Int32)).toUInt32 &&& Int32.toUInt32 31)).toInt32)) (fun w5 =>
  (w5 &&& (63 : Int32)))))))
def fX1_rebuild (n : OS) (x1 : Int32) (x2 : Int32) (x3 : Int32) : Option (Int32 × OS) :=
  Option.bind (α := Int32) (fX1_countCalls n) (fun v1 =>
  jn (α := Int32) (((n.1 7) + v1)) (fun w2 =>
  jn (α := Int32) ((((1 : Int32) <<< (x3 &&& 31)) - (1 : Int32))) (fun w3 =>
  some (v1, (setR (setR (setR (setR (setR (setR (setF (setF (setF (setF (setF n 7 w2) 0 x1) 1 x2) 2 x3) 3 w3) 0 rowN) 1 rowN) 2 rowN) 3 rowN) 4 rowN) 5 rowN)))))
def fX1_copyFromA (n : OS) (o : OS) : OS :=
  (setR (setR (setR (setR (setR (setR (setF (setF (setF (setF (setF (setF (setF (setF (setF (setF n 0 (o.1 0)) 1 (o.1 1)) 2 (o.1 2)) 3 (o.1 3)) 4 (o.1 4)) 5 (o.1 5)) 6 (o.1 6)) 7 (o.1 7)) 8 (o.1 8)) 9 (o.1 9)) 0 (o.2 0)) 1 (o.2 1)) 2 (o.2 2)) 3 (o.2 3)) 4 (o.2 4)) 5 (o.2 5))
def fX1_copyFromB (o : OS) (n : OS) : OS :=
  (setR (setR (setR (setR (setR (setR (setF (setF (setF (setF (setF (setF (setF (setF (setF (setF n 0 (o.1 0)) 1 (o.1 1)) 2 (o.1 2)) 3 (o.1 3)) 4 (o.1 4)) 5 (o.1 5)) 6 (o.1 6)) 7 (o.1 7)) 8 (o.1 8)) 9 (o.1 9)) 0 (o.2 0)) 1 (o.2 1)) 2 (o.2 2)) 3 (o.2 3)) 4 (o.2 4)) 5 (o.2 5))

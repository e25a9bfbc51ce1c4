theorem zz96 : True := trivial

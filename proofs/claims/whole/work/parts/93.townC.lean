theorem zz93 : True := trivial

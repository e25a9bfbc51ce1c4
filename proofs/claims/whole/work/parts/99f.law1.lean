theorem zz99f : True := trivial

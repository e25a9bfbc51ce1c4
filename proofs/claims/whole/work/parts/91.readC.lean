theorem zz91 : True := trivial
